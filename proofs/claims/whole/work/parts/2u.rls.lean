section S_RLS
abbrev ws_X11_setsBreak : List Cond := Cond.code yX11_setsBreak cX11_setsBreak 9 (some .boolean) :: W0
abbrev rm_X11_setsBreak : Room := ({ frames := 2, cells := 0, slots := 0, locals := 42 } : Room)
def wb_X11_setsBreak_16 (rec : Int32 → Int32 → Int32 → Int32 → Int32 → Int32 → (Nat → Int32) → (Nat → Nat → Int32) → Prop) (K50 : Int32 → Int32 → Int32 → Int32 → Int32 → Int32 → (Nat → Int32) → (Nat → Nat → Int32) → Prop) (P : Int32 → RST → Prop) (x1 : Int32) (x2 : Int32) (x3 : Int32) (x4 : Int32) (x5 : Int32) (x6 : Int32) (r : Nat → Int32) (q : Nat → Nat → Int32) : Prop := vp_in x5 3334 ∧ (((q 0 (Int32.toNatClampNeg x5)) ≤ x6 → (K50 x1 x2 x3 x4 x5 x6 r q)) ∧ (¬ (q 0 (Int32.toNatClampNeg x5)) ≤ x6 → (vp_in (274 + 510 * x1 + 47 + 10 * (x2 - 1) + 2 * x6) 3334 ∧ ((x3 ≤ (q 0 (Int32.toNatClampNeg (274 + 510 * x1 + 47 + 10 * (x2 - 1) + 2 * x6))) → (K50 x1 x2 x3 x4 x5 x6 r q)) ∧ (¬ x3 ≤ (q 0 (Int32.toNatClampNeg (274 + 510 * x1 + 47 + 10 * (x2 - 1) + 2 * x6))) → (∀ v6 : Int32, v6 = x6 + 1 → (rec x1 x2 x3 x4 x5 v6 r q)))))))
def wp_X11_setsBreak_16 (K50 : Int32 → Int32 → Int32 → Int32 → Int32 → Int32 → (Nat → Int32) → (Nat → Nat → Int32) → Prop) (P : Int32 → RST → Prop) : Nat → Int32 → Int32 → Int32 → Int32 → Int32 → Int32 → (Nat → Int32) → (Nat → Nat → Int32) → Prop
  | 0 => fun _ _ _ _ _ _ _ _ => False
  | n + 1 => fun x1 x2 x3 x4 x5 x6 r q => wb_X11_setsBreak_16 (wp_X11_setsBreak_16 K50 P n) K50 P x1 x2 x3 x4 x5 x6 r q
set_option maxRecDepth 100000 in
set_option maxHeartbeats 4000000 in
theorem t_X11_setsBreak_16 {p : Program} {l : Launch} {e : Env} {s : State} {m : MethodId} {args : Array Value} {below : List Frame} {meth : Method} {c : Code} {D : va_G} {A : Nat → Prop} {T : Nat → ClassId} {m0 : Nat} {a : Nat → Nat} (C : GC p s m args meth c cX11_setsBreak "FreightRaterModel" (ws_X11_setsBreak) 9 D A (zty T)) (hr : meth.sig.returnType = (some .boolean)) (K50 : Int32 → Int32 → Int32 → Int32 → Int32 → Int32 → (Nat → Int32) → (Nat → Nat → Int32) → Prop) (P : Int32 → RST → Prop) (hK50 : ∀ (x1 : Int32) (x2 : Int32) (x3 : Int32) (x4 : Int32) (x5 : Int32) (x6 : Int32) (r : Nat → Int32) (q : Nat → Nat → Int32), K50 x1 x2 x3 x4 x5 x6 r q → GW p l e rm_X11_setsBreak s m args below meth c D A 9 0 0 (MQ below (va_Qi P (RE D T m0 a A) A) args s 0 0 A) (RW m0 a T r q) 0 0 50 [(0, .ref m0), (1, .int x1), (2, .int x2), (3, .int x3), (4, .int x4), (5, .int x5), (6, .int x6)] []) : ∀ (n : Nat) (x1 : Int32) (x2 : Int32) (x3 : Int32) (x4 : Int32) (x5 : Int32) (x6 : Int32) (r : Nat → Int32) (q : Nat → Nat → Int32), wp_X11_setsBreak_16 K50 P n x1 x2 x3 x4 x5 x6 r q → GW p l e rm_X11_setsBreak s m args below meth c D A 9 0 0 (MQ below (va_Qi P (RE D T m0 a A) A) args s 0 0 A) (RW m0 a T r q) 0 0 16 [(0, .ref m0), (1, .int x1), (2, .int x2), (3, .int x3), (4, .int x4), (5, .int x5), (6, .int x6)] [] := by
  have hw : ∀ {w : Cond}, w ∈ W0 → w.before args s = true := fun h => C.2.2.2.2.1 _ (List.mem_cons_of_mem _ h)
  intro n
  induction n with
  | zero => intro x1 x2 x3 x4 x5 x6 r q h; exact h.elim
  | succ n ih =>
    intro x1 x2 x3 x4 x5 x6 r q h
    replace h : wb_X11_setsBreak_16 (wp_X11_setsBreak_16 K50 P n) K50 P x1 x2 x3 x4 x5 x6 r q := h
    unfold wb_X11_setsBreak_16 at h
    refine g_iload C dX11_setsBreak_16 6 rfl ?_
    refine g_aload_n C dX11_setsBreak_18 rfl 0 rfl ?_
    refine gr_get C iwx_X11 0 (hw kw_1809) (by decide) rfl rfl dX11_setsBreak_19 ?_
    refine g_iload C dX11_setsBreak_22 5 rfl ?_
    obtain ⟨g2, h⟩ := h
    refine gr_ald_0 C g2 dX11_setsBreak_24 ?_
    refine g_icmp_ge (tgt := 50) C dX11_setsBreak_25 (by decide) (fun z3 => ?_) (fun z3 => ?_)
    · replace h := h.1 z3
      refine g_locals [0, 1, 2, 3, 4, 5, 6] rfl ?_
      exact hK50 x1 x2 x3 x4 x5 x6 r q h
    · replace h := h.2 z3
      refine g_aload_n C dX11_setsBreak_28 rfl 0 rfl ?_
      refine gr_get C iwx_X11 0 (hw kw_1809) (by decide) rfl rfl dX11_setsBreak_29 ?_
      refine g_iload_n C dX11_setsBreak_32 rfl 1 rfl ?_
      refine g_iload_n C dX11_setsBreak_33 rfl 2 rfl ?_
      refine g_iload C dX11_setsBreak_34 6 rfl ?_
      refine gr_callSf C [.int x1, .int x2, .int x6] rfl (k_X11_breakAt l D T m0 a x1 x2 x6 r q) (w0_S 3 C.2.2.2.2.1 kw_2005 kw_2006 kw_9 kw_2007 rfl rfl (by decide +kernel) ⟨by decide, by decide⟩) rfl (Nat.le_of_ble_eq_true rfl) (Nat.zero_le _) (Nat.zero_le _) dX11_setsBreak_36 ?_
      obtain ⟨g4, h⟩ := h
      refine gr_ald_0 C g4 dX11_setsBreak_39 ?_
      refine g_iload_n C dX11_setsBreak_40 rfl 3 rfl ?_
      refine g_icmp_ge (tgt := 50) C dX11_setsBreak_41 (by decide) (fun z5 => ?_) (fun z5 => ?_)
      · replace h := h.1 z5
        refine g_locals [0, 1, 2, 3, 4, 5, 6] rfl ?_
        exact hK50 x1 x2 x3 x4 x5 x6 r q h
      · replace h := h.2 z5
        obtain ⟨v6, ev6⟩ : ∃ y : Int32, y = x6 + 1 := ⟨_, rfl⟩
        replace h := h v6 ev6
        refine g_iinc (v := v6) (lv' := [(6, .int v6), (0, .ref m0), (1, .int x1), (2, .int x2), (3, .int x3), (4, .int x4), (5, .int x5)]) C dX11_setsBreak_44 (j := 6) rfl (by rw [ev6]; rfl) (by decide) rfl ?_
        refine g_goto (tgt := 16) C dX11_setsBreak_47 (by decide) ?_
        refine g_locals [1, 2, 3, 4, 5, 6, 0] rfl ?_
        exact ih x1 x2 x3 x4 x5 v6 r q h
def wb_X11_setsBreak_207 (rec : Int32 → Int32 → Int32 → Int32 → Int32 → Int32 → Int32 → Int32 → (Nat → Int32) → (Nat → Nat → Int32) → Prop) (K246 : Int32 → Int32 → Int32 → Int32 → Int32 → Int32 → Int32 → (Nat → Int32) → (Nat → Nat → Int32) → Prop) (P : Int32 → RST → Prop) (x1 : Int32) (x2 : Int32) (x3 : Int32) (x4 : Int32) (x5 : Int32) (x6 : Int32) (x7 : Int32) (x8 : Int32) (r : Nat → Int32) (q : Nat → Nat → Int32) : Prop := (x8 < (274 + 510 * x1 + 47 + 10 * (x2 - 1) + 2 * x6) → (K246 x1 x2 x3 x4 x5 x6 x7 r q)) ∧ (¬ x8 < (274 + 510 * x1 + 47 + 10 * (x2 - 1) + 2 * x6) → ((¬ x7 = 0 → (K246 x1 x2 x3 x4 x5 x6 x7 r q)) ∧ (x7 = 0 → (vp_in x8 3334 ∧ (vp_in (x8 + 2) 3334 ∧ (∀ q27 : Nat → Nat → Int32, q27 = va_up q 0 (upd (q 0) (Int32.toNatClampNeg (x8 + 2)) (q 0 (Int32.toNatClampNeg x8))) → (∀ v28 : Int32, v28 = x8 + (-1) → (rec x1 x2 x3 x4 x5 x6 x7 v28 r q27))))))))
def wp_X11_setsBreak_207 (K246 : Int32 → Int32 → Int32 → Int32 → Int32 → Int32 → Int32 → (Nat → Int32) → (Nat → Nat → Int32) → Prop) (P : Int32 → RST → Prop) : Nat → Int32 → Int32 → Int32 → Int32 → Int32 → Int32 → Int32 → Int32 → (Nat → Int32) → (Nat → Nat → Int32) → Prop
  | 0 => fun _ _ _ _ _ _ _ _ _ _ => False
  | n + 1 => fun x1 x2 x3 x4 x5 x6 x7 x8 r q => wb_X11_setsBreak_207 (wp_X11_setsBreak_207 K246 P n) K246 P x1 x2 x3 x4 x5 x6 x7 x8 r q
set_option maxRecDepth 100000 in
set_option maxHeartbeats 4000000 in
theorem t_X11_setsBreak_207 {p : Program} {l : Launch} {e : Env} {s : State} {m : MethodId} {args : Array Value} {below : List Frame} {meth : Method} {c : Code} {D : va_G} {A : Nat → Prop} {T : Nat → ClassId} {m0 : Nat} {a : Nat → Nat} (C : GC p s m args meth c cX11_setsBreak "FreightRaterModel" (ws_X11_setsBreak) 9 D A (zty T)) (hr : meth.sig.returnType = (some .boolean)) (K246 : Int32 → Int32 → Int32 → Int32 → Int32 → Int32 → Int32 → (Nat → Int32) → (Nat → Nat → Int32) → Prop) (P : Int32 → RST → Prop) (hK246 : ∀ (x1 : Int32) (x2 : Int32) (x3 : Int32) (x4 : Int32) (x5 : Int32) (x6 : Int32) (x7 : Int32) (r : Nat → Int32) (q : Nat → Nat → Int32), K246 x1 x2 x3 x4 x5 x6 x7 r q → GW p l e rm_X11_setsBreak s m args below meth c D A 9 0 0 (MQ below (va_Qi P (RE D T m0 a A) A) args s 0 0 A) (RW m0 a T r q) 0 0 246 [(0, .ref m0), (1, .int x1), (2, .int x2), (3, .int x3), (4, .int x4), (5, .int x5), (6, .int x6), (7, .int x7)] []) : ∀ (n : Nat) (x1 : Int32) (x2 : Int32) (x3 : Int32) (x4 : Int32) (x5 : Int32) (x6 : Int32) (x7 : Int32) (x8 : Int32) (r : Nat → Int32) (q : Nat → Nat → Int32), wp_X11_setsBreak_207 K246 P n x1 x2 x3 x4 x5 x6 x7 x8 r q → GW p l e rm_X11_setsBreak s m args below meth c D A 9 0 0 (MQ below (va_Qi P (RE D T m0 a A) A) args s 0 0 A) (RW m0 a T r q) 0 0 207 [(0, .ref m0), (1, .int x1), (2, .int x2), (3, .int x3), (4, .int x4), (5, .int x5), (6, .int x6), (7, .int x7), (8, .int x8)] [] := by
  have hw : ∀ {w : Cond}, w ∈ W0 → w.before args s = true := fun h => C.2.2.2.2.1 _ (List.mem_cons_of_mem _ h)
  intro n
  induction n with
  | zero => intro x1 x2 x3 x4 x5 x6 x7 x8 r q h; exact h.elim
  | succ n ih =>
    intro x1 x2 x3 x4 x5 x6 x7 x8 r q h
    replace h : wb_X11_setsBreak_207 (wp_X11_setsBreak_207 K246 P n) K246 P x1 x2 x3 x4 x5 x6 x7 x8 r q := h
    unfold wb_X11_setsBreak_207 at h
    refine g_iload C dX11_setsBreak_207 8 rfl ?_
    refine g_iload_n C dX11_setsBreak_209 rfl 1 rfl ?_
    refine g_iload_n C dX11_setsBreak_210 rfl 2 rfl ?_
    refine g_iload C dX11_setsBreak_211 6 rfl ?_
    refine gr_callSf C [.int x1, .int x2, .int x6] rfl (k_X11_breakAt l D T m0 a x1 x2 x6 r q) (w0_S 3 C.2.2.2.2.1 kw_2005 kw_2006 kw_9 kw_2007 rfl rfl (by decide +kernel) ⟨by decide, by decide⟩) rfl (Nat.le_of_ble_eq_true rfl) (Nat.zero_le _) (Nat.zero_le _) dX11_setsBreak_213 ?_
    refine g_icmp_lt (tgt := 246) C dX11_setsBreak_216 (by decide) (fun z23 => ?_) (fun z23 => ?_)
    · replace h := h.1 z23
      refine g_locals [0, 1, 2, 3, 4, 5, 6, 7] rfl ?_
      exact hK246 x1 x2 x3 x4 x5 x6 x7 r q h
    · replace h := h.2 z23
      refine g_iload C dX11_setsBreak_219 7 rfl ?_
      refine g_if_ne (tgt := 246) C dX11_setsBreak_221 (by decide) (fun z24 => ?_) (fun z24 => ?_)
      · replace h := h.1 z24
        refine g_locals [0, 1, 2, 3, 4, 5, 6, 7] rfl ?_
        exact hK246 x1 x2 x3 x4 x5 x6 x7 r q h
      · replace h := h.2 z24
        refine g_aload_n C dX11_setsBreak_224 rfl 0 rfl ?_
        refine gr_get C iwx_X11 0 (hw kw_1809) (by decide) rfl rfl dX11_setsBreak_225 ?_
        refine g_iload C dX11_setsBreak_228 8 rfl ?_
        refine g_iconst (v := 2) C dX11_setsBreak_230 (by decide) ?_
        refine g_iadd C dX11_setsBreak_231 ?_
        refine g_aload_n C dX11_setsBreak_232 rfl 0 rfl ?_
        refine gr_get C iwx_X11 0 (hw kw_1809) (by decide) rfl rfl dX11_setsBreak_233 ?_
        refine g_iload C dX11_setsBreak_236 8 rfl ?_
        obtain ⟨g25, h⟩ := h
        refine gr_ald_0 C g25 dX11_setsBreak_238 ?_
        obtain ⟨g26, h⟩ := h
        refine gr_ast_0 C g26 dX11_setsBreak_239 ?_
        refine gr_nq (fun q27 eq27 => ?_)
        replace h := h q27 eq27
        obtain ⟨v28, ev28⟩ : ∃ y : Int32, y = x8 + (-1) := ⟨_, rfl⟩
        replace h := h v28 ev28
        refine g_iinc (v := v28) (lv' := [(8, .int v28), (0, .ref m0), (1, .int x1), (2, .int x2), (3, .int x3), (4, .int x4), (5, .int x5), (6, .int x6), (7, .int x7)]) C dX11_setsBreak_240 (j := 8) rfl (by rw [ev28]; rfl) (by decide) rfl ?_
        refine g_goto (tgt := 207) C dX11_setsBreak_243 (by decide) ?_
        refine g_locals [1, 2, 3, 4, 5, 6, 7, 8, 0] rfl ?_
        exact ih x1 x2 x3 x4 x5 x6 x7 v28 r q27 h
def wp_X11_setsBreak_246 (P : Int32 → RST → Prop) (x1 : Int32) (x2 : Int32) (x3 : Int32) (x4 : Int32) (x5 : Int32) (x6 : Int32) (x7 : Int32) (r : Nat → Int32) (q : Nat → Nat → Int32) : Prop := vp_in x5 3334 ∧ ((x7 = 0 → (vp_in x5 3334 ∧ (∀ q41 : Nat → Nat → Int32, q41 = va_up q 0 (upd (q 0) (Int32.toNatClampNeg x5) ((q 0 (Int32.toNatClampNeg x5)) + 1)) → (vp_in (274 + 510 * x1 + 47 + 10 * (x2 - 1) + 2 * x6) 3334 ∧ (∀ q43 : Nat → Nat → Int32, q43 = va_up q41 0 (upd (q41 0) (Int32.toNatClampNeg (274 + 510 * x1 + 47 + 10 * (x2 - 1) + 2 * x6)) x3) → (vp_in ((274 + 510 * x1 + 47 + 10 * (x2 - 1) + 2 * x6) + 1) 3334 ∧ (∀ q45 : Nat → Nat → Int32, q45 = va_up q43 0 (upd (q43 0) (Int32.toNatClampNeg ((274 + 510 * x1 + 47 + 10 * (x2 - 1) + 2 * x6) + 1)) x4) → (P 1 (r, q45))))))))) ∧ (¬ x7 = 0 → (vp_in x5 3334 ∧ (∀ q47 : Nat → Nat → Int32, q47 = va_up q 0 (upd (q 0) (Int32.toNatClampNeg x5) ((q 0 (Int32.toNatClampNeg x5)) + 0)) → (vp_in (274 + 510 * x1 + 47 + 10 * (x2 - 1) + 2 * x6) 3334 ∧ (∀ q49 : Nat → Nat → Int32, q49 = va_up q47 0 (upd (q47 0) (Int32.toNatClampNeg (274 + 510 * x1 + 47 + 10 * (x2 - 1) + 2 * x6)) x3) → (vp_in ((274 + 510 * x1 + 47 + 10 * (x2 - 1) + 2 * x6) + 1) 3334 ∧ (∀ q51 : Nat → Nat → Int32, q51 = va_up q49 0 (upd (q49 0) (Int32.toNatClampNeg ((274 + 510 * x1 + 47 + 10 * (x2 - 1) + 2 * x6) + 1)) x4) → (P 1 (r, q51))))))))))
set_option maxRecDepth 100000 in
set_option maxHeartbeats 4000000 in
theorem t_X11_setsBreak_246 {p : Program} {l : Launch} {e : Env} {s : State} {m : MethodId} {args : Array Value} {below : List Frame} {meth : Method} {c : Code} {D : va_G} {A : Nat → Prop} {T : Nat → ClassId} {m0 : Nat} {a : Nat → Nat} (C : GC p s m args meth c cX11_setsBreak "FreightRaterModel" (ws_X11_setsBreak) 9 D A (zty T)) (hr : meth.sig.returnType = (some .boolean)) (P : Int32 → RST → Prop) : ∀ (x1 : Int32) (x2 : Int32) (x3 : Int32) (x4 : Int32) (x5 : Int32) (x6 : Int32) (x7 : Int32) (r : Nat → Int32) (q : Nat → Nat → Int32), wp_X11_setsBreak_246  P x1 x2 x3 x4 x5 x6 x7 r q → GW p l e rm_X11_setsBreak s m args below meth c D A 9 0 0 (MQ below (va_Qi P (RE D T m0 a A) A) args s 0 0 A) (RW m0 a T r q) 0 0 246 [(0, .ref m0), (1, .int x1), (2, .int x2), (3, .int x3), (4, .int x4), (5, .int x5), (6, .int x6), (7, .int x7)] [] := by
  have hw : ∀ {w : Cond}, w ∈ W0 → w.before args s = true := fun h => C.2.2.2.2.1 _ (List.mem_cons_of_mem _ h)
  intro x1 x2 x3 x4 x5 x6 x7 r q h
  unfold wp_X11_setsBreak_246 at h
  refine g_aload_n C dX11_setsBreak_246 rfl 0 rfl ?_
  refine gr_get C iwx_X11 0 (hw kw_1809) (by decide) rfl rfl dX11_setsBreak_247 ?_
  refine g_iload C dX11_setsBreak_250 5 rfl ?_
  refine g_dup2 C dX11_setsBreak_252 rfl rfl ?_
  obtain ⟨g38, h⟩ := h
  refine gr_ald_0 C g38 dX11_setsBreak_253 ?_
  refine g_iload C dX11_setsBreak_254 7 rfl ?_
  refine g_if_eq (tgt := 263) C dX11_setsBreak_256 (by decide) (fun z39 => ?_) (fun z39 => ?_)
  · replace h := h.1 z39
    refine g_iconst (v := 1) C dX11_setsBreak_263 (by decide) ?_
    refine g_iadd C dX11_setsBreak_264 ?_
    obtain ⟨g40, h⟩ := h
    refine gr_ast_0 C g40 dX11_setsBreak_265 ?_
    refine gr_nq (fun q41 eq41 => ?_)
    replace h := h q41 eq41
    refine g_aload_n C dX11_setsBreak_266 rfl 0 rfl ?_
    refine gr_get C iwx_X11 0 (hw kw_1809) (by decide) rfl rfl dX11_setsBreak_267 ?_
    refine g_iload_n C dX11_setsBreak_270 rfl 1 rfl ?_
    refine g_iload_n C dX11_setsBreak_271 rfl 2 rfl ?_
    refine g_iload C dX11_setsBreak_272 6 rfl ?_
    refine gr_callSf C [.int x1, .int x2, .int x6] rfl (k_X11_breakAt l D T m0 a x1 x2 x6 r q41) (w0_S 3 C.2.2.2.2.1 kw_2005 kw_2006 kw_9 kw_2007 rfl rfl (by decide +kernel) ⟨by decide, by decide⟩) rfl (Nat.le_of_ble_eq_true rfl) (Nat.zero_le _) (Nat.zero_le _) dX11_setsBreak_274 ?_
    refine g_iload_n C dX11_setsBreak_277 rfl 3 rfl ?_
    obtain ⟨g42, h⟩ := h
    refine gr_ast_0 C g42 dX11_setsBreak_278 ?_
    refine gr_nq (fun q43 eq43 => ?_)
    replace h := h q43 eq43
    refine g_aload_n C dX11_setsBreak_279 rfl 0 rfl ?_
    refine gr_get C iwx_X11 0 (hw kw_1809) (by decide) rfl rfl dX11_setsBreak_280 ?_
    refine g_iload_n C dX11_setsBreak_283 rfl 1 rfl ?_
    refine g_iload_n C dX11_setsBreak_284 rfl 2 rfl ?_
    refine g_iload C dX11_setsBreak_285 6 rfl ?_
    refine gr_callSf C [.int x1, .int x2, .int x6] rfl (k_X11_breakAt l D T m0 a x1 x2 x6 r q43) (w0_S 3 C.2.2.2.2.1 kw_2005 kw_2006 kw_9 kw_2007 rfl rfl (by decide +kernel) ⟨by decide, by decide⟩) rfl (Nat.le_of_ble_eq_true rfl) (Nat.zero_le _) (Nat.zero_le _) dX11_setsBreak_287 ?_
    refine g_iconst (v := 1) C dX11_setsBreak_290 (by decide) ?_
    refine g_iadd C dX11_setsBreak_291 ?_
    refine g_iload C dX11_setsBreak_292 4 rfl ?_
    obtain ⟨g44, h⟩ := h
    refine gr_ast_0 C g44 dX11_setsBreak_294 ?_
    refine gr_nq (fun q45 eq45 => ?_)
    replace h := h q45 eq45
    refine g_iconst (v := 1) C dX11_setsBreak_295 (by decide) ?_
    exact gr_zret C hr vz1 dX11_setsBreak_296 h
  · replace h := h.2 z39
    refine g_iconst (v := 0) C dX11_setsBreak_259 (by decide) ?_
    refine g_goto (tgt := 264) C dX11_setsBreak_260 (by decide) ?_
    refine g_iadd C dX11_setsBreak_264 ?_
    obtain ⟨g46, h⟩ := h
    refine gr_ast_0 C g46 dX11_setsBreak_265 ?_
    refine gr_nq (fun q47 eq47 => ?_)
    replace h := h q47 eq47
    refine g_aload_n C dX11_setsBreak_266 rfl 0 rfl ?_
    refine gr_get C iwx_X11 0 (hw kw_1809) (by decide) rfl rfl dX11_setsBreak_267 ?_
    refine g_iload_n C dX11_setsBreak_270 rfl 1 rfl ?_
    refine g_iload_n C dX11_setsBreak_271 rfl 2 rfl ?_
    refine g_iload C dX11_setsBreak_272 6 rfl ?_
    refine gr_callSf C [.int x1, .int x2, .int x6] rfl (k_X11_breakAt l D T m0 a x1 x2 x6 r q47) (w0_S 3 C.2.2.2.2.1 kw_2005 kw_2006 kw_9 kw_2007 rfl rfl (by decide +kernel) ⟨by decide, by decide⟩) rfl (Nat.le_of_ble_eq_true rfl) (Nat.zero_le _) (Nat.zero_le _) dX11_setsBreak_274 ?_
    refine g_iload_n C dX11_setsBreak_277 rfl 3 rfl ?_
    obtain ⟨g48, h⟩ := h
    refine gr_ast_0 C g48 dX11_setsBreak_278 ?_
    refine gr_nq (fun q49 eq49 => ?_)
    replace h := h q49 eq49
    refine g_aload_n C dX11_setsBreak_279 rfl 0 rfl ?_
    refine gr_get C iwx_X11 0 (hw kw_1809) (by decide) rfl rfl dX11_setsBreak_280 ?_
    refine g_iload_n C dX11_setsBreak_283 rfl 1 rfl ?_
    refine g_iload_n C dX11_setsBreak_284 rfl 2 rfl ?_
    refine g_iload C dX11_setsBreak_285 6 rfl ?_
    refine gr_callSf C [.int x1, .int x2, .int x6] rfl (k_X11_breakAt l D T m0 a x1 x2 x6 r q49) (w0_S 3 C.2.2.2.2.1 kw_2005 kw_2006 kw_9 kw_2007 rfl rfl (by decide +kernel) ⟨by decide, by decide⟩) rfl (Nat.le_of_ble_eq_true rfl) (Nat.zero_le _) (Nat.zero_le _) dX11_setsBreak_287 ?_
    refine g_iconst (v := 1) C dX11_setsBreak_290 (by decide) ?_
    refine g_iadd C dX11_setsBreak_291 ?_
    refine g_iload C dX11_setsBreak_292 4 rfl ?_
    obtain ⟨g50, h⟩ := h
    refine gr_ast_0 C g50 dX11_setsBreak_294 ?_
    refine gr_nq (fun q51 eq51 => ?_)
    replace h := h q51 eq51
    refine g_iconst (v := 1) C dX11_setsBreak_295 (by decide) ?_
    exact gr_zret C hr vz1 dX11_setsBreak_296 h
def wb_X11_setsBreak_150 (rec : Int32 → Int32 → Int32 → Int32 → (Nat → Int32) → (Nat → Nat → Int32) → Prop) (P : Int32 → RST → Prop) (x1 : Int32) (x2 : Int32) (x5 : Int32) (x8 : Int32) (r : Nat → Int32) (q : Nat → Nat → Int32) : Prop := vp_in x5 3334 ∧ (((274 + 510 * x1 + 47 + 10 * (x2 - 1) + 2 * (q 0 (Int32.toNatClampNeg x5))) ≤ x8 → (P 1 (r, q))) ∧ (¬ (274 + 510 * x1 + 47 + 10 * (x2 - 1) + 2 * (q 0 (Int32.toNatClampNeg x5))) ≤ x8 → (vp_in (x8 + 2) 3334 ∧ (vp_in x8 3334 ∧ (∀ q61 : Nat → Nat → Int32, q61 = va_up q 0 (upd (q 0) (Int32.toNatClampNeg x8) (q 0 (Int32.toNatClampNeg (x8 + 2)))) → (∀ v62 : Int32, v62 = x8 + 1 → (rec x1 x2 x5 v62 r q61)))))))
def wp_X11_setsBreak_150 (P : Int32 → RST → Prop) : Nat → Int32 → Int32 → Int32 → Int32 → (Nat → Int32) → (Nat → Nat → Int32) → Prop
  | 0 => fun _ _ _ _ _ _ => False
  | n + 1 => fun x1 x2 x5 x8 r q => wb_X11_setsBreak_150 (wp_X11_setsBreak_150  P n)  P x1 x2 x5 x8 r q
set_option maxRecDepth 100000 in
set_option maxHeartbeats 4000000 in
theorem t_X11_setsBreak_150 {p : Program} {l : Launch} {e : Env} {s : State} {m : MethodId} {args : Array Value} {below : List Frame} {meth : Method} {c : Code} {D : va_G} {A : Nat → Prop} {T : Nat → ClassId} {m0 : Nat} {a : Nat → Nat} (C : GC p s m args meth c cX11_setsBreak "FreightRaterModel" (ws_X11_setsBreak) 9 D A (zty T)) (hr : meth.sig.returnType = (some .boolean)) (P : Int32 → RST → Prop) : ∀ (n : Nat) (x1 : Int32) (x2 : Int32) (x5 : Int32) (x8 : Int32) (r : Nat → Int32) (q : Nat → Nat → Int32), wp_X11_setsBreak_150  P n x1 x2 x5 x8 r q → GW p l e rm_X11_setsBreak s m args below meth c D A 9 0 0 (MQ below (va_Qi P (RE D T m0 a A) A) args s 0 0 A) (RW m0 a T r q) 0 0 150 [(0, .ref m0), (1, .int x1), (2, .int x2), (5, .int x5), (8, .int x8)] [] := by
  have hw : ∀ {w : Cond}, w ∈ W0 → w.before args s = true := fun h => C.2.2.2.2.1 _ (List.mem_cons_of_mem _ h)
  intro n
  induction n with
  | zero => intro x1 x2 x5 x8 r q h; exact h.elim
  | succ n ih =>
    intro x1 x2 x5 x8 r q h
    replace h : wb_X11_setsBreak_150 (wp_X11_setsBreak_150  P n)  P x1 x2 x5 x8 r q := h
    unfold wb_X11_setsBreak_150 at h
    refine g_iload C dX11_setsBreak_150 4 rfl ?_
    refine g_iload_n C dX11_setsBreak_152 rfl 1 rfl ?_
    refine g_iload_n C dX11_setsBreak_153 rfl 2 rfl ?_
    refine g_aload_n C dX11_setsBreak_154 rfl 0 rfl ?_
    refine gr_get C iwx_X11 0 (hw kw_1809) (by decide) rfl rfl dX11_setsBreak_155 ?_
    refine g_iload C dX11_setsBreak_158 3 rfl ?_
    obtain ⟨g57, h⟩ := h
    refine gr_ald_0 C g57 dX11_setsBreak_160 ?_
    refine gr_callSf C [.int x1, .int x2, .int (q 0 (Int32.toNatClampNeg x5))] rfl (k_X11_breakAt l D T m0 a x1 x2 (q 0 (Int32.toNatClampNeg x5)) r q) (w0_S 3 C.2.2.2.2.1 kw_2005 kw_2006 kw_9 kw_2007 rfl rfl (by decide +kernel) ⟨by decide, by decide⟩) rfl (Nat.le_of_ble_eq_true rfl) (Nat.zero_le _) (Nat.zero_le _) dX11_setsBreak_161 ?_
    refine g_icmp_ge (tgt := 189) C dX11_setsBreak_164 (by decide) (fun z58 => ?_) (fun z58 => ?_)
    · replace h := h.1 z58
      refine g_iconst (v := 1) C dX11_setsBreak_189 (by decide) ?_
      exact gr_zret C hr vz1 dX11_setsBreak_190 h
    · replace h := h.2 z58
      refine g_aload_n C dX11_setsBreak_167 rfl 0 rfl ?_
      refine gr_get C iwx_X11 0 (hw kw_1809) (by decide) rfl rfl dX11_setsBreak_168 ?_
      refine g_iload C dX11_setsBreak_171 4 rfl ?_
      refine g_aload_n C dX11_setsBreak_173 rfl 0 rfl ?_
      refine gr_get C iwx_X11 0 (hw kw_1809) (by decide) rfl rfl dX11_setsBreak_174 ?_
      refine g_iload C dX11_setsBreak_177 4 rfl ?_
      refine g_iconst (v := 2) C dX11_setsBreak_179 (by decide) ?_
      refine g_iadd C dX11_setsBreak_180 ?_
      obtain ⟨g59, h⟩ := h
      refine gr_ald_0 C g59 dX11_setsBreak_181 ?_
      obtain ⟨g60, h⟩ := h
      refine gr_ast_0 C g60 dX11_setsBreak_182 ?_
      refine gr_nq (fun q61 eq61 => ?_)
      replace h := h q61 eq61
      obtain ⟨v62, ev62⟩ : ∃ y : Int32, y = x8 + 1 := ⟨_, rfl⟩
      replace h := h v62 ev62
      refine g_iinc (v := v62) (lv' := [(8, .int v62), (0, .ref m0), (1, .int x1), (2, .int x2), (5, .int x5)]) C dX11_setsBreak_183 (j := 4) rfl (by rw [ev62]; rfl) (by decide) rfl ?_
      refine g_goto (tgt := 150) C dX11_setsBreak_186 (by decide) ?_
      refine g_locals [1, 2, 3, 4, 0] rfl ?_
      exact ih x1 x2 x5 v62 r q61 h
def wp_X11_setsBreak_125 (P : Int32 → RST → Prop) (x1 : Int32) (x2 : Int32) (x3 : Int32) (x4 : Int32) (x5 : Int32) (x6 : Int32) (x7 : Int32) (r : Nat → Int32) (q : Nat → Nat → Int32) : Prop := (¬ x4 = 0 → (vp_in x5 3334 ∧ (∀ v22 : Int32, v22 = ((274 + 510 * x1 + 47 + 10 * (x2 - 1) + 2 * (q 0 (Int32.toNatClampNeg x5))) - 1) → (∃ k52 : Nat, wp_X11_setsBreak_207 (fun (y29 : Int32) (y30 : Int32) (y31 : Int32) (y32 : Int32) (y33 : Int32) (y34 : Int32) (y35 : Int32) (r36 : Nat → Int32) (q37 : Nat → Nat → Int32) => wp_X11_setsBreak_246  P y29 y30 y31 y32 y33 y34 y35 r36 q37) P k52 x1 x2 x3 x4 x5 x6 x7 v22 r q)))) ∧ (x4 = 0 → (vp_in x5 3334 ∧ (vp_in x5 3334 ∧ (∀ q55 : Nat → Nat → Int32, q55 = va_up q 0 (upd (q 0) (Int32.toNatClampNeg x5) ((q 0 (Int32.toNatClampNeg x5)) - 1)) → (∀ v56 : Int32, v56 = (274 + 510 * x1 + 47 + 10 * (x2 - 1) + 2 * x6) → (∃ k63 : Nat, wp_X11_setsBreak_150  P k63 x1 x2 x5 v56 r q55))))))
set_option maxRecDepth 100000 in
set_option maxHeartbeats 4000000 in
theorem t_X11_setsBreak_125 {p : Program} {l : Launch} {e : Env} {s : State} {m : MethodId} {args : Array Value} {below : List Frame} {meth : Method} {c : Code} {D : va_G} {A : Nat → Prop} {T : Nat → ClassId} {m0 : Nat} {a : Nat → Nat} (C : GC p s m args meth c cX11_setsBreak "FreightRaterModel" (ws_X11_setsBreak) 9 D A (zty T)) (hr : meth.sig.returnType = (some .boolean)) (P : Int32 → RST → Prop) : ∀ (x1 : Int32) (x2 : Int32) (x3 : Int32) (x4 : Int32) (x5 : Int32) (x6 : Int32) (x7 : Int32) (r : Nat → Int32) (q : Nat → Nat → Int32), wp_X11_setsBreak_125  P x1 x2 x3 x4 x5 x6 x7 r q → GW p l e rm_X11_setsBreak s m args below meth c D A 9 0 0 (MQ below (va_Qi P (RE D T m0 a A) A) args s 0 0 A) (RW m0 a T r q) 0 0 125 [(0, .ref m0), (1, .int x1), (2, .int x2), (3, .int x3), (4, .int x4), (5, .int x5), (6, .int x6), (7, .int x7)] [] := by
  have hw : ∀ {w : Cond}, w ∈ W0 → w.before args s = true := fun h => C.2.2.2.2.1 _ (List.mem_cons_of_mem _ h)
  intro x1 x2 x3 x4 x5 x6 x7 r q h
  unfold wp_X11_setsBreak_125 at h
  refine g_iload C dX11_setsBreak_125 4 rfl ?_
  refine g_if_ne (tgt := 191) C dX11_setsBreak_127 (by decide) (fun z20 => ?_) (fun z20 => ?_)
  · replace h := h.1 z20
    refine g_iload_n C dX11_setsBreak_191 rfl 1 rfl ?_
    refine g_iload_n C dX11_setsBreak_192 rfl 2 rfl ?_
    refine g_aload_n C dX11_setsBreak_193 rfl 0 rfl ?_
    refine gr_get C iwx_X11 0 (hw kw_1809) (by decide) rfl rfl dX11_setsBreak_194 ?_
    refine g_iload C dX11_setsBreak_197 5 rfl ?_
    obtain ⟨g21, h⟩ := h
    refine gr_ald_0 C g21 dX11_setsBreak_199 ?_
    refine gr_callSf C [.int x1, .int x2, .int (q 0 (Int32.toNatClampNeg x5))] rfl (k_X11_breakAt l D T m0 a x1 x2 (q 0 (Int32.toNatClampNeg x5)) r q) (w0_S 3 C.2.2.2.2.1 kw_2005 kw_2006 kw_9 kw_2007 rfl rfl (by decide +kernel) ⟨by decide, by decide⟩) rfl (Nat.le_of_ble_eq_true rfl) (Nat.zero_le _) (Nat.zero_le _) dX11_setsBreak_200 ?_
    refine g_iconst (v := 1) C dX11_setsBreak_203 (by decide) ?_
    refine g_isub C dX11_setsBreak_204 ?_
    refine g_topi (fun v22 ev22 => ?_)
    replace h := h v22 ev22
    refine g_istore (lv' := [(8, .int v22), (0, .ref m0), (1, .int x1), (2, .int x2), (3, .int x3), (4, .int x4), (5, .int x5), (6, .int x6), (7, .int x7)]) C dX11_setsBreak_205 (by decide) rfl ?_
    refine g_locals [1, 2, 3, 4, 5, 6, 7, 8, 0] rfl ?_
    obtain ⟨k52, h⟩ := h
    refine t_X11_setsBreak_207 C hr _ P ?_ k52 x1 x2 x3 x4 x5 x6 x7 v22 r q h
    · intro y29 y30 y31 y32 y33 y34 y35 r36 q37 h
      refine g_locals [0, 1, 2, 3, 4, 5, 6, 7] rfl ?_
      refine t_X11_setsBreak_246 C hr  P  y29 y30 y31 y32 y33 y34 y35 r36 q37 h
  · replace h := h.2 z20
    refine g_aload_n C dX11_setsBreak_130 rfl 0 rfl ?_
    refine gr_get C iwx_X11 0 (hw kw_1809) (by decide) rfl rfl dX11_setsBreak_131 ?_
    refine g_iload C dX11_setsBreak_134 5 rfl ?_
    refine g_dup2 C dX11_setsBreak_136 rfl rfl ?_
    obtain ⟨g53, h⟩ := h
    refine gr_ald_0 C g53 dX11_setsBreak_137 ?_
    refine g_iconst (v := 1) C dX11_setsBreak_138 (by decide) ?_
    refine g_isub C dX11_setsBreak_139 ?_
    obtain ⟨g54, h⟩ := h
    refine gr_ast_0 C g54 dX11_setsBreak_140 ?_
    refine gr_nq (fun q55 eq55 => ?_)
    replace h := h q55 eq55
    refine g_iload_n C dX11_setsBreak_141 rfl 1 rfl ?_
    refine g_iload_n C dX11_setsBreak_142 rfl 2 rfl ?_
    refine g_iload C dX11_setsBreak_143 6 rfl ?_
    refine gr_callSf C [.int x1, .int x2, .int x6] rfl (k_X11_breakAt l D T m0 a x1 x2 x6 r q55) (w0_S 3 C.2.2.2.2.1 kw_2005 kw_2006 kw_9 kw_2007 rfl rfl (by decide +kernel) ⟨by decide, by decide⟩) rfl (Nat.le_of_ble_eq_true rfl) (Nat.zero_le _) (Nat.zero_le _) dX11_setsBreak_145 ?_
    refine g_topi (fun v56 ev56 => ?_)
    replace h := h v56 ev56
    refine g_istore (lv' := [(8, .int v56), (0, .ref m0), (1, .int x1), (2, .int x2), (3, .int x3), (4, .int x4), (5, .int x5), (6, .int x6), (7, .int x7)]) C dX11_setsBreak_148 (by decide) rfl ?_
    refine g_locals [1, 2, 3, 6, 0] rfl ?_
    obtain ⟨k63, h⟩ := h
    refine t_X11_setsBreak_150 C hr  P  k63 x1 x2 x5 v56 r q55 h
def wp_X11_setsBreak_83 (P : Int32 → RST → Prop) (x1 : Int32) (x2 : Int32) (x3 : Int32) (x4 : Int32) (x5 : Int32) (x6 : Int32) (s0 : Int32) (r : Nat → Int32) (q : Nat → Nat → Int32) : Prop := (99 < x4 → (P 0 (r, q))) ∧ (¬ 99 < x4 → ((¬ x4 = 0 → ((x4 ≤ 0 → (wp_X11_setsBreak_125  P x1 x2 x3 x4 x5 x6 s0 r q)) ∧ (¬ x4 ≤ 0 → ((¬ s0 = 0 → (wp_X11_setsBreak_125  P x1 x2 x3 x4 x5 x6 s0 r q)) ∧ (s0 = 0 → (vp_in x5 3334 ∧ ((¬ (q 0 (Int32.toNatClampNeg x5)) = 5 → (wp_X11_setsBreak_125  P x1 x2 x3 x4 x5 x6 s0 r q)) ∧ ((q 0 (Int32.toNatClampNeg x5)) = 5 → (P 0 (r, q)))))))))) ∧ (x4 = 0 → ((s0 = 0 → (P 0 (r, q))) ∧ (¬ s0 = 0 → ((x4 ≤ 0 → (wp_X11_setsBreak_125  P x1 x2 x3 x4 x5 x6 s0 r q)) ∧ (¬ x4 ≤ 0 → ((¬ s0 = 0 → (wp_X11_setsBreak_125  P x1 x2 x3 x4 x5 x6 s0 r q)) ∧ (s0 = 0 → (vp_in x5 3334 ∧ ((¬ (q 0 (Int32.toNatClampNeg x5)) = 5 → (wp_X11_setsBreak_125  P x1 x2 x3 x4 x5 x6 s0 r q)) ∧ ((q 0 (Int32.toNatClampNeg x5)) = 5 → (P 0 (r, q))))))))))))))
set_option maxRecDepth 100000 in
set_option maxHeartbeats 4000000 in
theorem t_X11_setsBreak_83 {p : Program} {l : Launch} {e : Env} {s : State} {m : MethodId} {args : Array Value} {below : List Frame} {meth : Method} {c : Code} {D : va_G} {A : Nat → Prop} {T : Nat → ClassId} {m0 : Nat} {a : Nat → Nat} (C : GC p s m args meth c cX11_setsBreak "FreightRaterModel" (ws_X11_setsBreak) 9 D A (zty T)) (hr : meth.sig.returnType = (some .boolean)) (P : Int32 → RST → Prop) : ∀ (x1 : Int32) (x2 : Int32) (x3 : Int32) (x4 : Int32) (x5 : Int32) (x6 : Int32) (s0 : Int32) (r : Nat → Int32) (q : Nat → Nat → Int32), wp_X11_setsBreak_83  P x1 x2 x3 x4 x5 x6 s0 r q → GW p l e rm_X11_setsBreak s m args below meth c D A 9 0 0 (MQ below (va_Qi P (RE D T m0 a A) A) args s 0 0 A) (RW m0 a T r q) 0 0 83 [(0, .ref m0), (1, .int x1), (2, .int x2), (3, .int x3), (4, .int x4), (5, .int x5), (6, .int x6)] [.int s0] := by
  have hw : ∀ {w : Cond}, w ∈ W0 → w.before args s = true := fun h => C.2.2.2.2.1 _ (List.mem_cons_of_mem _ h)
  intro x1 x2 x3 x4 x5 x6 s0 r q h
  unfold wp_X11_setsBreak_83 at h
  refine g_istore (lv' := [(7, .int s0), (0, .ref m0), (1, .int x1), (2, .int x2), (3, .int x3), (4, .int x4), (5, .int x5), (6, .int x6)]) C dX11_setsBreak_83 (by decide) rfl ?_
  refine g_iload C dX11_setsBreak_85 5 rfl ?_
  refine g_bipush (v := 99) C dX11_setsBreak_87 (by decide) ?_
  refine g_icmp_gt (tgt := 123) C dX11_setsBreak_89 (by decide) (fun z17 => ?_) (fun z17 => ?_)
  · replace h := h.1 z17
    refine g_iconst (v := 0) C dX11_setsBreak_123 (by decide) ?_
    exact gr_zret C hr vz0 dX11_setsBreak_124 h
  · replace h := h.2 z17
    refine g_iload C dX11_setsBreak_92 5 rfl ?_
    refine g_if_ne (tgt := 102) C dX11_setsBreak_94 (by decide) (fun z18 => ?_) (fun z18 => ?_)
    · replace h := h.1 z18
      refine g_iload C dX11_setsBreak_102 5 rfl ?_
      refine g_if_le (tgt := 125) C dX11_setsBreak_104 (by decide) (fun z19 => ?_) (fun z19 => ?_)
      · replace h := h.1 z19
        refine g_locals [1, 2, 3, 4, 5, 6, 7, 0] rfl ?_
        refine t_X11_setsBreak_125 C hr  P  x1 x2 x3 x4 x5 x6 s0 r q h
      · replace h := h.2 z19
        refine g_iload C dX11_setsBreak_107 0 rfl ?_
        refine g_if_ne (tgt := 125) C dX11_setsBreak_109 (by decide) (fun z64 => ?_) (fun z64 => ?_)
        · replace h := h.1 z64
          refine g_locals [1, 2, 3, 4, 5, 6, 7, 0] rfl ?_
          refine t_X11_setsBreak_125 C hr  P  x1 x2 x3 x4 x5 x6 s0 r q h
        · replace h := h.2 z64
          refine g_aload_n C dX11_setsBreak_112 rfl 1 rfl ?_
          refine gr_get C iwx_X11 0 (hw kw_1809) (by decide) rfl rfl dX11_setsBreak_113 ?_
          refine g_iload C dX11_setsBreak_116 6 rfl ?_
          obtain ⟨g65, h⟩ := h
          refine gr_ald_0 C g65 dX11_setsBreak_118 ?_
          refine g_iconst (v := 5) C dX11_setsBreak_119 (by decide) ?_
          refine g_icmp_ne (tgt := 125) C dX11_setsBreak_120 (by decide) (fun z66 => ?_) (fun z66 => ?_)
          · replace h := h.1 z66
            refine g_locals [1, 2, 3, 4, 5, 6, 7, 0] rfl ?_
            refine t_X11_setsBreak_125 C hr  P  x1 x2 x3 x4 x5 x6 s0 r q h
          · replace h := h.2 z66
            refine g_iconst (v := 0) C dX11_setsBreak_123 (by decide) ?_
            exact gr_zret C hr vz0 dX11_setsBreak_124 h
    · replace h := h.2 z18
      refine g_iload C dX11_setsBreak_97 0 rfl ?_
      refine g_if_eq (tgt := 123) C dX11_setsBreak_99 (by decide) (fun z67 => ?_) (fun z67 => ?_)
      · replace h := h.1 z67
        refine g_iconst (v := 0) C dX11_setsBreak_123 (by decide) ?_
        exact gr_zret C hr vz0 dX11_setsBreak_124 h
      · replace h := h.2 z67
        refine g_iload C dX11_setsBreak_102 5 rfl ?_
        refine g_if_le (tgt := 125) C dX11_setsBreak_104 (by decide) (fun z68 => ?_) (fun z68 => ?_)
        · replace h := h.1 z68
          refine g_locals [1, 2, 3, 4, 5, 6, 7, 0] rfl ?_
          refine t_X11_setsBreak_125 C hr  P  x1 x2 x3 x4 x5 x6 s0 r q h
        · replace h := h.2 z68
          refine g_iload C dX11_setsBreak_107 0 rfl ?_
          refine g_if_ne (tgt := 125) C dX11_setsBreak_109 (by decide) (fun z69 => ?_) (fun z69 => ?_)
          · replace h := h.1 z69
            refine g_locals [1, 2, 3, 4, 5, 6, 7, 0] rfl ?_
            refine t_X11_setsBreak_125 C hr  P  x1 x2 x3 x4 x5 x6 s0 r q h
          · replace h := h.2 z69
            refine g_aload_n C dX11_setsBreak_112 rfl 1 rfl ?_
            refine gr_get C iwx_X11 0 (hw kw_1809) (by decide) rfl rfl dX11_setsBreak_113 ?_
            refine g_iload C dX11_setsBreak_116 6 rfl ?_
            obtain ⟨g70, h⟩ := h
            refine gr_ald_0 C g70 dX11_setsBreak_118 ?_
            refine g_iconst (v := 5) C dX11_setsBreak_119 (by decide) ?_
            refine g_icmp_ne (tgt := 125) C dX11_setsBreak_120 (by decide) (fun z71 => ?_) (fun z71 => ?_)
            · replace h := h.1 z71
              refine g_locals [1, 2, 3, 4, 5, 6, 7, 0] rfl ?_
              refine t_X11_setsBreak_125 C hr  P  x1 x2 x3 x4 x5 x6 s0 r q h
            · replace h := h.2 z71
              refine g_iconst (v := 0) C dX11_setsBreak_123 (by decide) ?_
              exact gr_zret C hr vz0 dX11_setsBreak_124 h
def wp_X11_setsBreak_50 (P : Int32 → RST → Prop) (x1 : Int32) (x2 : Int32) (x3 : Int32) (x4 : Int32) (x5 : Int32) (x6 : Int32) (r : Nat → Int32) (q : Nat → Nat → Int32) : Prop := vp_in x5 3334 ∧ (((q 0 (Int32.toNatClampNeg x5)) ≤ x6 → (wp_X11_setsBreak_83  P x1 x2 x3 x4 x5 x6 0 r q)) ∧ (¬ (q 0 (Int32.toNatClampNeg x5)) ≤ x6 → (vp_in (274 + 510 * x1 + 47 + 10 * (x2 - 1) + 2 * x6) 3334 ∧ ((¬ (q 0 (Int32.toNatClampNeg (274 + 510 * x1 + 47 + 10 * (x2 - 1) + 2 * x6))) = x3 → (wp_X11_setsBreak_83  P x1 x2 x3 x4 x5 x6 0 r q)) ∧ ((q 0 (Int32.toNatClampNeg (274 + 510 * x1 + 47 + 10 * (x2 - 1) + 2 * x6))) = x3 → (wp_X11_setsBreak_83  P x1 x2 x3 x4 x5 x6 1 r q))))))
set_option maxRecDepth 100000 in
set_option maxHeartbeats 4000000 in
theorem t_X11_setsBreak_50 {p : Program} {l : Launch} {e : Env} {s : State} {m : MethodId} {args : Array Value} {below : List Frame} {meth : Method} {c : Code} {D : va_G} {A : Nat → Prop} {T : Nat → ClassId} {m0 : Nat} {a : Nat → Nat} (C : GC p s m args meth c cX11_setsBreak "FreightRaterModel" (ws_X11_setsBreak) 9 D A (zty T)) (hr : meth.sig.returnType = (some .boolean)) (P : Int32 → RST → Prop) : ∀ (x1 : Int32) (x2 : Int32) (x3 : Int32) (x4 : Int32) (x5 : Int32) (x6 : Int32) (r : Nat → Int32) (q : Nat → Nat → Int32), wp_X11_setsBreak_50  P x1 x2 x3 x4 x5 x6 r q → GW p l e rm_X11_setsBreak s m args below meth c D A 9 0 0 (MQ below (va_Qi P (RE D T m0 a A) A) args s 0 0 A) (RW m0 a T r q) 0 0 50 [(0, .ref m0), (1, .int x1), (2, .int x2), (3, .int x3), (4, .int x4), (5, .int x5), (6, .int x6)] [] := by
  have hw : ∀ {w : Cond}, w ∈ W0 → w.before args s = true := fun h => C.2.2.2.2.1 _ (List.mem_cons_of_mem _ h)
  intro x1 x2 x3 x4 x5 x6 r q h
  unfold wp_X11_setsBreak_50 at h
  refine g_iload C dX11_setsBreak_50 6 rfl ?_
  refine g_aload_n C dX11_setsBreak_52 rfl 0 rfl ?_
  refine gr_get C iwx_X11 0 (hw kw_1809) (by decide) rfl rfl dX11_setsBreak_53 ?_
  refine g_iload C dX11_setsBreak_56 5 rfl ?_
  obtain ⟨g15, h⟩ := h
  refine gr_ald_0 C g15 dX11_setsBreak_58 ?_
  refine g_icmp_ge (tgt := 82) C dX11_setsBreak_59 (by decide) (fun z16 => ?_) (fun z16 => ?_)
  · replace h := h.1 z16
    refine g_iconst (v := 0) C dX11_setsBreak_82 (by decide) ?_
    refine g_locals [0, 1, 2, 3, 4, 5, 6] rfl ?_
    refine t_X11_setsBreak_83 C hr  P  x1 x2 x3 x4 x5 x6 0 r q h
  · replace h := h.2 z16
    refine g_aload_n C dX11_setsBreak_62 rfl 0 rfl ?_
    refine gr_get C iwx_X11 0 (hw kw_1809) (by decide) rfl rfl dX11_setsBreak_63 ?_
    refine g_iload_n C dX11_setsBreak_66 rfl 1 rfl ?_
    refine g_iload_n C dX11_setsBreak_67 rfl 2 rfl ?_
    refine g_iload C dX11_setsBreak_68 6 rfl ?_
    refine gr_callSf C [.int x1, .int x2, .int x6] rfl (k_X11_breakAt l D T m0 a x1 x2 x6 r q) (w0_S 3 C.2.2.2.2.1 kw_2005 kw_2006 kw_9 kw_2007 rfl rfl (by decide +kernel) ⟨by decide, by decide⟩) rfl (Nat.le_of_ble_eq_true rfl) (Nat.zero_le _) (Nat.zero_le _) dX11_setsBreak_70 ?_
    obtain ⟨g72, h⟩ := h
    refine gr_ald_0 C g72 dX11_setsBreak_73 ?_
    refine g_iload_n C dX11_setsBreak_74 rfl 3 rfl ?_
    refine g_icmp_ne (tgt := 82) C dX11_setsBreak_75 (by decide) (fun z73 => ?_) (fun z73 => ?_)
    · replace h := h.1 z73
      refine g_iconst (v := 0) C dX11_setsBreak_82 (by decide) ?_
      refine g_locals [0, 1, 2, 3, 4, 5, 6] rfl ?_
      refine t_X11_setsBreak_83 C hr  P  x1 x2 x3 x4 x5 x6 0 r q h
    · replace h := h.2 z73
      refine g_iconst (v := 1) C dX11_setsBreak_78 (by decide) ?_
      refine g_goto (tgt := 83) C dX11_setsBreak_79 (by decide) ?_
      refine g_locals [0, 1, 2, 3, 4, 5, 6] rfl ?_
      refine t_X11_setsBreak_83 C hr  P  x1 x2 x3 x4 x5 x6 1 r q h
def wp_X11_setsBreak (P : Int32 → RST → Prop) (p0 : Int32) (p1 : Int32) (p2 : Int32) (p3 : Int32) (r : Nat → Int32) (q : Nat → Nat → Int32) : Prop := ∀ v1 : Int32, v1 = ((((274 + 510 * p0) + 38) + p1) - 1) → (∃ k74 : Nat, wp_X11_setsBreak_16 (fun (y7 : Int32) (y8 : Int32) (y9 : Int32) (y10 : Int32) (y11 : Int32) (y12 : Int32) (r13 : Nat → Int32) (q14 : Nat → Nat → Int32) => wp_X11_setsBreak_50  P y7 y8 y9 y10 y11 y12 r13 q14) P k74 p0 p1 p2 p3 v1 0 r q)
set_option maxRecDepth 100000 in
set_option maxHeartbeats 4000000 in
theorem t_X11_setsBreak {p : Program} {l : Launch} {e : Env} {s : State} {m : MethodId} {args : Array Value} {below : List Frame} {meth : Method} {c : Code} {D : va_G} {A : Nat → Prop} {T : Nat → ClassId} {m0 : Nat} {a : Nat → Nat} (C : GC p s m args meth c cX11_setsBreak "FreightRaterModel" (ws_X11_setsBreak) 9 D A (zty T)) (hr : meth.sig.returnType = (some .boolean)) (P : Int32 → RST → Prop) : ∀ (p0 : Int32) (p1 : Int32) (p2 : Int32) (p3 : Int32) (r : Nat → Int32) (q : Nat → Nat → Int32), wp_X11_setsBreak P p0 p1 p2 p3 r q → GW p l e rm_X11_setsBreak s m args below meth c D A 9 0 0 (MQ below (va_Qi P (RE D T m0 a A) A) args s 0 0 A) (RW m0 a T r q) 0 0 0 [(0, .ref m0), (1, .int p0), (2, .int p1), (3, .int p2), (4, .int p3)] [] := by
  have hw : ∀ {w : Cond}, w ∈ W0 → w.before args s = true := fun h => C.2.2.2.2.1 _ (List.mem_cons_of_mem _ h)
  intro p0 p1 p2 p3 r q h
  unfold wp_X11_setsBreak at h
  refine g_iload_n C dX11_setsBreak_0 rfl 1 rfl ?_
  refine gr_callSf C [.int p0] rfl (k_X11_at l D T m0 a p0 r q) (w0_S 1 C.2.2.2.2.1 kw_1947 kw_1948 kw_9 kw_1949 rfl rfl (by decide +kernel) ⟨by decide, by decide⟩) rfl (Nat.le_of_ble_eq_true rfl) (Nat.zero_le _) (Nat.zero_le _) dX11_setsBreak_1 ?_
  refine g_bipush (v := 38) C dX11_setsBreak_4 (by decide) ?_
  refine g_iadd C dX11_setsBreak_6 ?_
  refine g_iload_n C dX11_setsBreak_7 rfl 2 rfl ?_
  refine g_iadd C dX11_setsBreak_8 ?_
  refine g_iconst (v := 1) C dX11_setsBreak_9 (by decide) ?_
  refine g_isub C dX11_setsBreak_10 ?_
  refine g_topi (fun v1 ev1 => ?_)
  replace h := h v1 ev1
  refine g_istore (lv' := [(5, .int v1), (0, .ref m0), (1, .int p0), (2, .int p1), (3, .int p2), (4, .int p3)]) C dX11_setsBreak_11 (by decide) rfl ?_
  refine g_iconst (v := 0) C dX11_setsBreak_13 (by decide) ?_
  refine g_istore (lv' := [(6, .int 0), (5, .int v1), (0, .ref m0), (1, .int p0), (2, .int p1), (3, .int p2), (4, .int p3)]) C dX11_setsBreak_14 (by decide) rfl ?_
  refine g_locals [2, 3, 4, 5, 6, 1, 0] rfl ?_
  obtain ⟨k74, h⟩ := h
  refine t_X11_setsBreak_16 C hr _ P ?_ k74 p0 p1 p2 p3 v1 0 r q h
  · intro y7 y8 y9 y10 y11 y12 r13 q14 h
    refine g_locals [0, 1, 2, 3, 4, 5, 6] rfl ?_
    refine t_X11_setsBreak_50 C hr  P  y7 y8 y9 y10 y11 y12 r13 q14 h
theorem c_X11_setsBreak (l : Launch) (D : va_G) (T : Nat → ClassId) (m0 : Nat) (a : Nat → Nat) (p0 : Int32) (p1 : Int32) (p2 : Int32) (p3 : Int32) (r : Nat → Int32) (q : Nat → Nat → Int32) (P : Int32 → RST → Prop) (h : wp_X11_setsBreak P p0 p1 p2 p3 r q) : RMi l yX11_setsBreak (ws_X11_setsBreak) rm_X11_setsBreak D T m0 a [.ref m0, .int p0, .int p1, .int p2, .int p3] r q P := gr_meti (by decide) rfl rfl (Nat.le_of_ble_eq_true rfl) (fun p e s m args below meth c A C hr => t_X11_setsBreak C hr P p0 p1 p2 p3 r q h)
theorem nI_m (a : Nat) (h : 1 ≤ a) : nI a + (-1) = nI (a - 1) := by
  rw [← nI_p1 h, Int32.sub_eq_add_neg]
theorem rl_bx {P : Int32 → RST → Prop} {K : Int32 → Int32 → Int32 → Int32 → Int32 → Int32 → (Nat → Int32) → (Nat → Nat → Int32) → Prop} {r : Nat → Int32} {q : Nat → Nat → Int32} {v z c : Nat} {w p : Int32} (hv : v < 6) (h1 : 1 ≤ z) (h9 : z ≤ 9) (hc : c ≤ 5) (ec : q 0 (274 + 510 * v + 38 + z - 1) = nI c) : ∀ k i fuel, i + k = c → k < fuel → K (nI v) (nI z) w p (nI (274 + 510 * v + 38 + z - 1)) (nI (bxF (q 0) v z w k i)) r q → wp_X11_setsBreak_16 K P fuel (nI v) (nI z) w p (nI (274 + 510 * v + 38 + z - 1)) (nI i) r q := by
  intro k
  induction k with
  | zero =>
    intro i fuel hi hf hK
    obtain ⟨f, rfl⟩ : ∃ f, fuel = f + 1 := ⟨fuel - 1, by omega⟩; rw [wp_X11_setsBreak_16]; unfold wb_X11_setsBreak_16; dsimp only
    simp (disch := omega) only [li_2, li_3, li_4, li_5, li_6, li_7, li_8, li_9, li_10, li_12, li_14, li_20, li_26, li_30, li_31, li_36, li_38, li_47, li_48, li_50, li_57, li_58, li_80, li_98, li_99, li_100, li_102, li_104, li_105, li_108, li_109, li_110, li_114, li_115, li_119, li_122, li_137, li_146, li_147, li_148, li_149, li_150, li_200, li_255, li_256, li_274, li_510, li_512, li_640, li_999, li_1000, li_1024, li_3334, li_5000, li_9999, li_10000, li_23338, li_26672, li_30000, li_99999, li_150000, li_300000, pk_mul, nI_add, pk_sub, nI_clamp, nI_1, nI_p1, nI_a0, nI_0a, nI_m0, nI_m1, cl_0, cl_1, z01, z11, nI_leI, nI_ltI, nI_eq, nz_lt0, nz_le, nz_eq0, nz_pos, nz_le0, nz_eq1, nz_lt1, nz_ge1, nz_le1, nz_gt1, nz_vp, nz_vp0, nz_vp1, six_nI, vix_nI, bix_nI, pix_nI, fix_nI, gix_nI, rix_nI, zix_nI, pix_0, pix_1, bix_0, fix_0, fix_1, rix_1, true_and, and_true]
    rw [ec]
    simp (disch := omega) only [li_2, li_3, li_4, li_5, li_6, li_7, li_8, li_9, li_10, li_12, li_14, li_20, li_26, li_30, li_31, li_36, li_38, li_47, li_48, li_50, li_57, li_58, li_80, li_98, li_99, li_100, li_102, li_104, li_105, li_108, li_109, li_110, li_114, li_115, li_119, li_122, li_137, li_146, li_147, li_148, li_149, li_150, li_200, li_255, li_256, li_274, li_510, li_512, li_640, li_999, li_1000, li_1024, li_3334, li_5000, li_9999, li_10000, li_23338, li_26672, li_30000, li_99999, li_150000, li_300000, pk_mul, nI_add, pk_sub, nI_clamp, nI_1, nI_p1, nI_a0, nI_0a, nI_m0, nI_m1, cl_0, cl_1, z01, z11, nI_leI, nI_ltI, nI_eq, nz_lt0, nz_le, nz_eq0, nz_pos, nz_le0, nz_eq1, nz_lt1, nz_ge1, nz_le1, nz_gt1, nz_vp, nz_vp0, nz_vp1, six_nI, vix_nI, bix_nI, pix_nI, fix_nI, gix_nI, rix_nI, zix_nI, pix_0, pix_1, bix_0, fix_0, fix_1, rix_1, true_and, and_true]
    exact ⟨by omega, fun _ => hK, fun c => absurd (by omega) c⟩
  | succ k ih =>
    intro i fuel hi hf hK
    obtain ⟨f, rfl⟩ : ∃ f, fuel = f + 1 := ⟨fuel - 1, by omega⟩; rw [wp_X11_setsBreak_16]; unfold wb_X11_setsBreak_16; dsimp only
    simp (disch := omega) only [li_2, li_3, li_4, li_5, li_6, li_7, li_8, li_9, li_10, li_12, li_14, li_20, li_26, li_30, li_31, li_36, li_38, li_47, li_48, li_50, li_57, li_58, li_80, li_98, li_99, li_100, li_102, li_104, li_105, li_108, li_109, li_110, li_114, li_115, li_119, li_122, li_137, li_146, li_147, li_148, li_149, li_150, li_200, li_255, li_256, li_274, li_510, li_512, li_640, li_999, li_1000, li_1024, li_3334, li_5000, li_9999, li_10000, li_23338, li_26672, li_30000, li_99999, li_150000, li_300000, pk_mul, nI_add, pk_sub, nI_clamp, nI_1, nI_p1, nI_a0, nI_0a, nI_m0, nI_m1, cl_0, cl_1, z01, z11, nI_leI, nI_ltI, nI_eq, nz_lt0, nz_le, nz_eq0, nz_pos, nz_le0, nz_eq1, nz_lt1, nz_ge1, nz_le1, nz_gt1, nz_vp, nz_vp0, nz_vp1, six_nI, vix_nI, bix_nI, pix_nI, fix_nI, gix_nI, rix_nI, zix_nI, pix_0, pix_1, bix_0, fix_0, fix_1, rix_1, true_and, and_true]
    rw [ec]
    simp (disch := omega) only [li_2, li_3, li_4, li_5, li_6, li_7, li_8, li_9, li_10, li_12, li_14, li_20, li_26, li_30, li_31, li_36, li_38, li_47, li_48, li_50, li_57, li_58, li_80, li_98, li_99, li_100, li_102, li_104, li_105, li_108, li_109, li_110, li_114, li_115, li_119, li_122, li_137, li_146, li_147, li_148, li_149, li_150, li_200, li_255, li_256, li_274, li_510, li_512, li_640, li_999, li_1000, li_1024, li_3334, li_5000, li_9999, li_10000, li_23338, li_26672, li_30000, li_99999, li_150000, li_300000, pk_mul, nI_add, pk_sub, nI_clamp, nI_1, nI_p1, nI_a0, nI_0a, nI_m0, nI_m1, cl_0, cl_1, z01, z11, nI_leI, nI_ltI, nI_eq, nz_lt0, nz_le, nz_eq0, nz_pos, nz_le0, nz_eq1, nz_lt1, nz_ge1, nz_le1, nz_gt1, nz_vp, nz_vp0, nz_vp1, six_nI, vix_nI, bix_nI, pix_nI, fix_nI, gix_nI, rix_nI, zix_nI, pix_0, pix_1, bix_0, fix_0, fix_1, rix_1, true_and, and_true]
    rw [bxF] at hK
    refine ⟨by omega, fun c => absurd c (by omega), fun _ => ⟨by omega, fun c => ?_, fun c v6 e6 => ?_⟩⟩
    · rw [if_neg (Int32.not_lt.mpr c)] at hK
      exact hK
    · rw [if_pos (Int32.not_le.mp c)] at hK
      subst e6
      exact ih (i + 1) f (by omega) (by omega) hK
theorem rl_up {P : Int32 → RST → Prop} {K : Int32 → Int32 → Int32 → Int32 → Int32 → Int32 → Int32 → (Nat → Int32) → (Nat → Nat → Int32) → Prop} {r : Nat → Int32} {μ : Nat → Int32} {v z c i : Nat} {w p : Int32} (hv : v < 6) (h1 : 1 ≤ z) (h9 : z ≤ 9) (hc : c ≤ 4) (hi : i ≤ c) : ∀ (m fuel : Nat) (q : Nat → Nat → Int32), i * 2 + m ≤ 2 * c → m < fuel → q 0 = (fun k => if 274 + 510 * v + 47 + 10 * (z - 1) + 2 * i + m + 2 ≤ k ∧ k < 274 + 510 * v + 47 + 10 * (z - 1) + 2 * c + 2 then μ (k - 2) else μ k) → (∀ q1, kQ q q1 [0] → q1 0 = bkU μ v z i c → K (nI v) (nI z) w p (nI (274 + 510 * v + 38 + z - 1)) (nI i) 0 r q1) → wp_X11_setsBreak_207 K P fuel (nI v) (nI z) w p (nI (274 + 510 * v + 38 + z - 1)) (nI i) 0 (nI (274 + 510 * v + 47 + 10 * (z - 1) + 2 * i + m - 1)) r q := by
  intro m
  induction m with
  | zero =>
    intro fuel q hm hf hq hK
    obtain ⟨f, rfl⟩ : ∃ f, fuel = f + 1 := ⟨fuel - 1, by omega⟩; rw [wp_X11_setsBreak_207]; unfold wb_X11_setsBreak_207; dsimp only
    simp (disch := omega) only [li_2, li_3, li_4, li_5, li_6, li_7, li_8, li_9, li_10, li_12, li_14, li_20, li_26, li_30, li_31, li_36, li_38, li_47, li_48, li_50, li_57, li_58, li_80, li_98, li_99, li_100, li_102, li_104, li_105, li_108, li_109, li_110, li_114, li_115, li_119, li_122, li_137, li_146, li_147, li_148, li_149, li_150, li_200, li_255, li_256, li_274, li_510, li_512, li_640, li_999, li_1000, li_1024, li_3334, li_5000, li_9999, li_10000, li_23338, li_26672, li_30000, li_99999, li_150000, li_300000, pk_mul, nI_add, pk_sub, nI_clamp, nI_1, nI_p1, nI_a0, nI_0a, nI_m0, nI_m1, cl_0, cl_1, z01, z11, nI_leI, nI_ltI, nI_eq, nz_lt0, nz_le, nz_eq0, nz_pos, nz_le0, nz_eq1, nz_lt1, nz_ge1, nz_le1, nz_gt1, nz_vp, nz_vp0, nz_vp1, six_nI, vix_nI, bix_nI, pix_nI, fix_nI, gix_nI, rix_nI, zix_nI, pix_0, pix_1, bix_0, fix_0, fix_1, rix_1, true_and, and_true]
    refine ⟨fun _ => hK q kQ.rf ?_, fun c => absurd (by omega) c⟩
    rw [hq]
    rfl
  | succ m ih =>
    intro fuel q hm hf hq hK
    obtain ⟨f, rfl⟩ : ∃ f, fuel = f + 1 := ⟨fuel - 1, by omega⟩; rw [wp_X11_setsBreak_207]; unfold wb_X11_setsBreak_207; dsimp only
    simp (disch := omega) only [li_2, li_3, li_4, li_5, li_6, li_7, li_8, li_9, li_10, li_12, li_14, li_20, li_26, li_30, li_31, li_36, li_38, li_47, li_48, li_50, li_57, li_58, li_80, li_98, li_99, li_100, li_102, li_104, li_105, li_108, li_109, li_110, li_114, li_115, li_119, li_122, li_137, li_146, li_147, li_148, li_149, li_150, li_200, li_255, li_256, li_274, li_510, li_512, li_640, li_999, li_1000, li_1024, li_3334, li_5000, li_9999, li_10000, li_23338, li_26672, li_30000, li_99999, li_150000, li_300000, pk_mul, nI_add, pk_sub, nI_clamp, nI_1, nI_p1, nI_a0, nI_0a, nI_m0, nI_m1, cl_0, cl_1, z01, z11, nI_leI, nI_ltI, nI_eq, nz_lt0, nz_le, nz_eq0, nz_pos, nz_le0, nz_eq1, nz_lt1, nz_ge1, nz_le1, nz_gt1, nz_vp, nz_vp0, nz_vp1, six_nI, vix_nI, bix_nI, pix_nI, fix_nI, gix_nI, rix_nI, zix_nI, pix_0, pix_1, bix_0, fix_0, fix_1, rix_1, true_and, and_true]
    refine ⟨fun c => absurd c (by omega), fun _ => ⟨fun c => absurd trivial c, fun _ => ⟨by omega, by omega, fun q27 e27 v28 e28 => ?_⟩⟩⟩
    rw [nI_m _ (by omega)] at e28
    subst e28
    have k27 : kQ q q27 [0] := by rw [e27]; exact kQ.rf.up (by decide) _
    have := ih f q27 (by omega) (by omega) ?_ (fun q1 h1 h2 => hK q1 (k27.tr h1 (fun _ h => h) (fun _ h => h)) h2)
    · exact this
    · rw [e27, va_up_self, hq]
      funext k
      by_cases e : k = 274 + 510 * v + 47 + 10 * (z - 1) + 2 * i + (m + 1) - 1 + 2
      · subst e
        rw [pk_us, if_pos (by omega)]
        dsimp only
        rw [if_neg (by omega)]
        congr 1
      · rw [pk_un e]
        by_cases c1 : 274 + 510 * v + 47 + 10 * (z - 1) + 2 * i + m + 2 ≤ k ∧ k < 274 + 510 * v + 47 + 10 * (z - 1) + 2 * c + 2
        · rw [if_pos c1, if_pos (by omega)]
        · rw [if_neg c1, if_neg (by omega)]
theorem rl_dn {P : Int32 → RST → Prop} {r : Nat → Int32} {μ : Nat → Int32} {v z c i : Nat} (hv : v < 6) (h1 : 1 ≤ z) (h9 : z ≤ 9) (hc : c ≤ 5) (hi : i < c) : ∀ (m x fuel : Nat) (q : Nat → Nat → Int32), x + m = 274 + 510 * v + 47 + 10 * (z - 1) + 2 * (c - 1) → 274 + 510 * v + 47 + 10 * (z - 1) + 2 * i ≤ x → m < fuel → q 0 = (fun k => if k = 274 + 510 * v + 38 + z - 1 then nI (c - 1) else if 274 + 510 * v + 47 + 10 * (z - 1) + 2 * i ≤ k ∧ k < x then μ (k + 2) else μ k) → (∀ q1, kQ q q1 [0] → q1 0 = bkD μ v z i c → P 1 (r, q1)) → wp_X11_setsBreak_150 P fuel (nI v) (nI z) (nI (274 + 510 * v + 38 + z - 1)) (nI x) r q := by
  intro m
  induction m with
  | zero =>
    intro x fuel q hm hx hf hq hK
    have em : q 0 (274 + 510 * v + 38 + z - 1) = nI (c - 1) := by rw [hq]; exact if_pos rfl
    obtain ⟨f, rfl⟩ : ∃ f, fuel = f + 1 := ⟨fuel - 1, by omega⟩; rw [wp_X11_setsBreak_150]; unfold wb_X11_setsBreak_150; dsimp only
    simp (disch := omega) only [li_2, li_3, li_4, li_5, li_6, li_7, li_8, li_9, li_10, li_12, li_14, li_20, li_26, li_30, li_31, li_36, li_38, li_47, li_48, li_50, li_57, li_58, li_80, li_98, li_99, li_100, li_102, li_104, li_105, li_108, li_109, li_110, li_114, li_115, li_119, li_122, li_137, li_146, li_147, li_148, li_149, li_150, li_200, li_255, li_256, li_274, li_510, li_512, li_640, li_999, li_1000, li_1024, li_3334, li_5000, li_9999, li_10000, li_23338, li_26672, li_30000, li_99999, li_150000, li_300000, pk_mul, nI_add, pk_sub, nI_clamp, nI_1, nI_p1, nI_a0, nI_0a, nI_m0, nI_m1, cl_0, cl_1, z01, z11, nI_leI, nI_ltI, nI_eq, nz_lt0, nz_le, nz_eq0, nz_pos, nz_le0, nz_eq1, nz_lt1, nz_ge1, nz_le1, nz_gt1, nz_vp, nz_vp0, nz_vp1, six_nI, vix_nI, bix_nI, pix_nI, fix_nI, gix_nI, rix_nI, zix_nI, pix_0, pix_1, bix_0, fix_0, fix_1, rix_1, true_and, and_true]
    rw [em]
    simp (disch := omega) only [li_2, li_3, li_4, li_5, li_6, li_7, li_8, li_9, li_10, li_12, li_14, li_20, li_26, li_30, li_31, li_36, li_38, li_47, li_48, li_50, li_57, li_58, li_80, li_98, li_99, li_100, li_102, li_104, li_105, li_108, li_109, li_110, li_114, li_115, li_119, li_122, li_137, li_146, li_147, li_148, li_149, li_150, li_200, li_255, li_256, li_274, li_510, li_512, li_640, li_999, li_1000, li_1024, li_3334, li_5000, li_9999, li_10000, li_23338, li_26672, li_30000, li_99999, li_150000, li_300000, pk_mul, nI_add, pk_sub, nI_clamp, nI_1, nI_p1, nI_a0, nI_0a, nI_m0, nI_m1, cl_0, cl_1, z01, z11, nI_leI, nI_ltI, nI_eq, nz_lt0, nz_le, nz_eq0, nz_pos, nz_le0, nz_eq1, nz_lt1, nz_ge1, nz_le1, nz_gt1, nz_vp, nz_vp0, nz_vp1, six_nI, vix_nI, bix_nI, pix_nI, fix_nI, gix_nI, rix_nI, zix_nI, pix_0, pix_1, bix_0, fix_0, fix_1, rix_1, true_and, and_true]
    refine ⟨by omega, fun _ => hK q kQ.rf ?_, fun c => absurd (by omega) c⟩
    rw [hq]
    have : x = 274 + 510 * v + 47 + 10 * (z - 1) + 2 * (c - 1) := by omega
    rw [this]
    rfl
  | succ m ih =>
    intro x fuel q hm hx hf hq hK
    have em : q 0 (274 + 510 * v + 38 + z - 1) = nI (c - 1) := by rw [hq]; exact if_pos rfl
    obtain ⟨f, rfl⟩ : ∃ f, fuel = f + 1 := ⟨fuel - 1, by omega⟩; rw [wp_X11_setsBreak_150]; unfold wb_X11_setsBreak_150; dsimp only
    simp (disch := omega) only [li_2, li_3, li_4, li_5, li_6, li_7, li_8, li_9, li_10, li_12, li_14, li_20, li_26, li_30, li_31, li_36, li_38, li_47, li_48, li_50, li_57, li_58, li_80, li_98, li_99, li_100, li_102, li_104, li_105, li_108, li_109, li_110, li_114, li_115, li_119, li_122, li_137, li_146, li_147, li_148, li_149, li_150, li_200, li_255, li_256, li_274, li_510, li_512, li_640, li_999, li_1000, li_1024, li_3334, li_5000, li_9999, li_10000, li_23338, li_26672, li_30000, li_99999, li_150000, li_300000, pk_mul, nI_add, pk_sub, nI_clamp, nI_1, nI_p1, nI_a0, nI_0a, nI_m0, nI_m1, cl_0, cl_1, z01, z11, nI_leI, nI_ltI, nI_eq, nz_lt0, nz_le, nz_eq0, nz_pos, nz_le0, nz_eq1, nz_lt1, nz_ge1, nz_le1, nz_gt1, nz_vp, nz_vp0, nz_vp1, six_nI, vix_nI, bix_nI, pix_nI, fix_nI, gix_nI, rix_nI, zix_nI, pix_0, pix_1, bix_0, fix_0, fix_1, rix_1, true_and, and_true]
    rw [em]
    simp (disch := omega) only [li_2, li_3, li_4, li_5, li_6, li_7, li_8, li_9, li_10, li_12, li_14, li_20, li_26, li_30, li_31, li_36, li_38, li_47, li_48, li_50, li_57, li_58, li_80, li_98, li_99, li_100, li_102, li_104, li_105, li_108, li_109, li_110, li_114, li_115, li_119, li_122, li_137, li_146, li_147, li_148, li_149, li_150, li_200, li_255, li_256, li_274, li_510, li_512, li_640, li_999, li_1000, li_1024, li_3334, li_5000, li_9999, li_10000, li_23338, li_26672, li_30000, li_99999, li_150000, li_300000, pk_mul, nI_add, pk_sub, nI_clamp, nI_1, nI_p1, nI_a0, nI_0a, nI_m0, nI_m1, cl_0, cl_1, z01, z11, nI_leI, nI_ltI, nI_eq, nz_lt0, nz_le, nz_eq0, nz_pos, nz_le0, nz_eq1, nz_lt1, nz_ge1, nz_le1, nz_gt1, nz_vp, nz_vp0, nz_vp1, six_nI, vix_nI, bix_nI, pix_nI, fix_nI, gix_nI, rix_nI, zix_nI, pix_0, pix_1, bix_0, fix_0, fix_1, rix_1, true_and, and_true]
    refine ⟨by omega, fun c => absurd c (by omega), fun _ => ⟨by omega, by omega, fun q61 e61 v62 e62 => ?_⟩⟩
    subst e62
    have k61 : kQ q q61 [0] := by rw [e61]; exact kQ.rf.up (by decide) _
    refine ih (x + 1) f q61 (by omega) (by omega) (by omega) ?_ (fun q1 h1 h2 => hK q1 (k61.tr h1 (fun _ h => h) (fun _ h => h)) h2)
    rw [e61, va_up_self, hq]
    funext k
    by_cases e : k = x
    · subst e
      have a1 : ¬ (k + 2 = 274 + 510 * v + 38 + z - 1) := by omega
      have a2 : ¬ (274 + 510 * v + 47 + 10 * (z - 1) + 2 * i ≤ k + 2 ∧ k + 2 < k) := by omega
      have a3 : ¬ (k = 274 + 510 * v + 38 + z - 1) := by omega
      have a4 : 274 + 510 * v + 47 + 10 * (z - 1) + 2 * i ≤ k ∧ k < k + 1 := by omega
      rw [pk_us]
      dsimp only
      rw [if_neg a1, if_neg a2, if_neg a3, if_pos a4]
    · rw [pk_un e]
      by_cases c0 : k = 274 + 510 * v + 38 + z - 1
      · rw [if_pos c0, if_pos c0]
      · rw [if_neg c0, if_neg c0]
        by_cases c1 : 274 + 510 * v + 47 + 10 * (z - 1) + 2 * i ≤ k ∧ k < x
        · rw [if_pos c1, if_pos (by omega)]
        · rw [if_neg c1, if_neg (by omega)]
theorem w_sb125 {r : Nat → Int32} {q : Nat → Nat → Int32} {v z c : Nat} {w p : Int32} (hv : v < 6) (h1 : 1 ≤ z) (h9 : z ≤ 9) (hc : c ≤ 5) (ec : q 0 (274 + 510 * v + 38 + z - 1) = nI c) (hi : bxI (q 0) v z w ≤ c) (hB : bkB (q 0) v z w p = true) : wp_X11_setsBreak_125 (fun v1 u => v1 = b2i (bkB (q 0) v z w p) ∧ u.1 = r ∧ kQ q u.2 [0] ∧ (bkB (q 0) v z w p = true → u.2 0 = bkS (q 0) v z w p)) (nI v) (nI z) w p (nI (274 + 510 * v + 38 + z - 1)) (nI (bxI (q 0) v z w)) (b2i (bxB (q 0) v z w)) r q := by
  have ic : iv (q 0 (274 + 510 * v + 38 + z - 1)) = c := by rw [ec]; exact nI_clamp (by omega)
  have hB0 := hB
  unfold bkB at hB
  rw [Bool.and_eq_true] at hB
  generalize hI : bxI (q 0) v z w = i at *
  have hbx : bxB (q 0) v z w = true → i < c := fun h => by
    unfold bxB at h
    rw [hI, ic, Bool.and_eq_true, decide_eq_true_eq] at h
    exact h.1
  unfold wp_X11_setsBreak_125
  simp (disch := omega) only [li_2, li_3, li_4, li_5, li_6, li_7, li_8, li_9, li_10, li_12, li_14, li_20, li_26, li_30, li_31, li_36, li_38, li_47, li_48, li_50, li_57, li_58, li_80, li_98, li_99, li_100, li_102, li_104, li_105, li_108, li_109, li_110, li_114, li_115, li_119, li_122, li_137, li_146, li_147, li_148, li_149, li_150, li_200, li_255, li_256, li_274, li_510, li_512, li_640, li_999, li_1000, li_1024, li_3334, li_5000, li_9999, li_10000, li_23338, li_26672, li_30000, li_99999, li_150000, li_300000, pk_mul, nI_add, pk_sub, nI_clamp, nI_1, nI_p1, nI_a0, nI_0a, nI_m0, nI_m1, cl_0, cl_1, z01, z11, nI_leI, nI_ltI, nI_eq, nz_lt0, nz_le, nz_eq0, nz_pos, nz_le0, nz_eq1, nz_lt1, nz_ge1, nz_le1, nz_gt1, nz_vp, nz_vp0, nz_vp1, six_nI, vix_nI, bix_nI, pix_nI, fix_nI, gix_nI, rix_nI, zix_nI, pix_0, pix_1, bix_0, fix_0, fix_1, rix_1, true_and, and_true]
  rw [ec]
  refine ⟨fun cp => ⟨by omega, fun v22 e22 => ?_⟩, fun cp => ⟨by omega, by omega, fun q55 e55 v56 e56 => ?_⟩⟩
  · have e22' : v22 = nI (274 + 510 * v + 47 + 10 * (z - 1) + 2 * c - 1) := by rw [e22]; simp (disch := omega) only [li_2, li_3, li_4, li_5, li_6, li_7, li_8, li_9, li_10, li_12, li_14, li_20, li_26, li_30, li_31, li_36, li_38, li_47, li_48, li_50, li_57, li_58, li_80, li_98, li_99, li_100, li_102, li_104, li_105, li_108, li_109, li_110, li_114, li_115, li_119, li_122, li_137, li_146, li_147, li_148, li_149, li_150, li_200, li_255, li_256, li_274, li_510, li_512, li_640, li_999, li_1000, li_1024, li_3334, li_5000, li_9999, li_10000, li_23338, li_26672, li_30000, li_99999, li_150000, li_300000, pk_mul, nI_add, pk_sub, nI_clamp, nI_1, nI_p1, nI_a0, nI_0a, nI_m0, nI_m1, cl_0, cl_1, z01, z11]
    clear e22
    subst e22'
    have hS : bkS (q 0) v z w p = if bxB (q 0) v z w = true then upd (upd (q 0) (274 + 510 * v + 47 + 10 * (z - 1) + 2 * i) w) (274 + 510 * v + 47 + 10 * (z - 1) + 2 * i + 1) p else upd (upd (upd (bkU (q 0) v z i c) (274 + 510 * v + 38 + z - 1) (nI c + 1)) (274 + 510 * v + 47 + 10 * (z - 1) + 2 * i) w) (274 + 510 * v + 47 + 10 * (z - 1) + 2 * i + 1) p := by
      unfold bkS
      rw [if_neg cp, hI, ic, ec]
    -- the end: the weight and the rate
    have fin : ∀ (b : Bool) (q1 : Nat → Nat → Int32), kQ q q1 [0] → b = bxB (q 0) v z w → q1 0 (274 + 510 * v + 38 + z - 1) = nI c → (q1 0 = if b = true then q 0 else bkU (q 0) v z i c) → wp_X11_setsBreak_246 (fun v1 u => v1 = b2i (bkB (q 0) v z w p) ∧ u.1 = r ∧ kQ q u.2 [0] ∧ (bkB (q 0) v z w p = true → u.2 0 = bkS (q 0) v z w p)) (nI v) (nI z) w p (nI (274 + 510 * v + 38 + z - 1)) (nI i) (b2i b) r q1 := by
      intro b q1 hk hb e0 hq
      unfold wp_X11_setsBreak_246
      simp (disch := omega) only [li_2, li_3, li_4, li_5, li_6, li_7, li_8, li_9, li_10, li_12, li_14, li_20, li_26, li_30, li_31, li_36, li_38, li_47, li_48, li_50, li_57, li_58, li_80, li_98, li_99, li_100, li_102, li_104, li_105, li_108, li_109, li_110, li_114, li_115, li_119, li_122, li_137, li_146, li_147, li_148, li_149, li_150, li_200, li_255, li_256, li_274, li_510, li_512, li_640, li_999, li_1000, li_1024, li_3334, li_5000, li_9999, li_10000, li_23338, li_26672, li_30000, li_99999, li_150000, li_300000, pk_mul, nI_add, pk_sub, nI_clamp, nI_1, nI_p1, nI_a0, nI_0a, nI_m0, nI_m1, cl_0, cl_1, z01, z11, nI_leI, nI_ltI, nI_eq, nz_lt0, nz_le, nz_eq0, nz_pos, nz_le0, nz_eq1, nz_lt1, nz_ge1, nz_le1, nz_gt1, nz_vp, nz_vp0, nz_vp1, six_nI, vix_nI, bix_nI, pix_nI, fix_nI, gix_nI, rix_nI, zix_nI, pix_0, pix_1, bix_0, fix_0, fix_1, rix_1, true_and, and_true]
      rw [e0]
      refine ⟨by omega, fun c0 => ⟨by omega, fun q41 e41 => ⟨by omega, fun q43 e43 => ⟨by omega, fun q45 e45 => ?_⟩⟩⟩, fun c0 => ⟨by omega, fun q41 e41 => ⟨by omega, fun q43 e43 => ⟨by omega, fun q45 e45 => ?_⟩⟩⟩⟩
      · have hb0 : b = false := (b2i_0 _).mp c0
        refine ⟨by rw [hB0]; rfl, by rw [e45, e43, e41]; exact ((hk.up (by decide) _).up (by decide) _).up (by decide) _, fun _ => ?_⟩
        rw [hS, ← hb, hb0, if_neg (by decide), e45, va_up_self, e43, va_up_self, e41, va_up_self, hq, hb0, if_neg (by decide)]
      · have hb1 : b = true := bx_of rfl c0
        refine ⟨by rw [hB0]; rfl, by rw [e45, e43, e41]; exact ((hk.up (by decide) _).up (by decide) _).up (by decide) _, fun _ => ?_⟩
        rw [hS, ← hb, hb1, if_pos rfl, e45, va_up_self, e43, va_up_self, e41, va_up_self, hq, hb1, if_pos rfl]
        congr 2
        funext k
        by_cases e : k = 274 + 510 * v + 38 + z - 1
        · rw [e, pk_us, ec, Int32.add_zero]
        · rw [pk_un e]
    cases hb : bxB (q 0) v z w with
    | true =>
      refine ⟨1, ?_⟩
      rw [wp_X11_setsBreak_207]; unfold wb_X11_setsBreak_207; dsimp only
      simp (disch := omega) only [li_2, li_3, li_4, li_5, li_6, li_7, li_8, li_9, li_10, li_12, li_14, li_20, li_26, li_30, li_31, li_36, li_38, li_47, li_48, li_50, li_57, li_58, li_80, li_98, li_99, li_100, li_102, li_104, li_105, li_108, li_109, li_110, li_114, li_115, li_119, li_122, li_137, li_146, li_147, li_148, li_149, li_150, li_200, li_255, li_256, li_274, li_510, li_512, li_640, li_999, li_1000, li_1024, li_3334, li_5000, li_9999, li_10000, li_23338, li_26672, li_30000, li_99999, li_150000, li_300000, pk_mul, nI_add, pk_sub, nI_clamp, nI_1, nI_p1, nI_a0, nI_0a, nI_m0, nI_m1, cl_0, cl_1, z01, z11, nI_leI, nI_ltI, nI_eq, nz_lt0, nz_le, nz_eq0, nz_pos, nz_le0, nz_eq1, nz_lt1, nz_ge1, nz_le1, nz_gt1, nz_vp, nz_vp0, nz_vp1, six_nI, vix_nI, bix_nI, pix_nI, fix_nI, gix_nI, rix_nI, zix_nI, pix_0, pix_1, bix_0, fix_0, fix_1, rix_1, true_and, and_true]
      have := hbx hb
      have f1 := fin true q kQ.rf hb.symm ec rfl
      rw [hb] at *
      exact ⟨fun c => absurd c (by omega), fun _ => ⟨fun _ => f1, fun c => absurd c (by decide)⟩⟩
    | false =>
      have hc5 : c ≤ 4 := by
        have := hB.2
        rw [if_neg cp, hb, ec] at this
        rcases Nat.lt_or_ge c 5 with q5 | q5
        · omega
        · have e5 : c = 5 := by omega
          subst e5
          exact absurd this (by decide)
      refine ⟨100, ?_⟩
      have := rl_up (P := fun v1 u => v1 = b2i (bkB (q 0) v z w p) ∧ u.1 = r ∧ kQ q u.2 [0] ∧ (bkB (q 0) v z w p = true → u.2 0 = bkS (q 0) v z w p)) (K := fun y29 y30 y31 y32 y33 y34 y35 r36 q37 => wp_X11_setsBreak_246 (fun v1 u => v1 = b2i (bkB (q 0) v z w p) ∧ u.1 = r ∧ kQ q u.2 [0] ∧ (bkB (q 0) v z w p = true → u.2 0 = bkS (q 0) v z w p)) y29 y30 y31 y32 y33 y34 y35 r36 q37) (r := r) (μ := q 0) (w := w) (p := p) hv h1 h9 hc5 hi (2 * c - 2 * i) 100 q (by omega) (by omega) ?_ (fun q1 k1 k2 => ?_)
      · rw [show 274 + 510 * v + 47 + 10 * (z - 1) + 2 * i + (2 * c - 2 * i) - 1 = 274 + 510 * v + 47 + 10 * (z - 1) + 2 * c - 1 by omega] at this
        exact this
      · funext k
        rw [if_neg (by omega)]
      · have f1 := fin false q1 k1 hb.symm ?_ (by rw [k2]; rfl)
        · exact f1
        · rw [k2]
          unfold bkU
          rw [if_neg (by omega)]
          exact ec
  · have hb : bxB (q 0) v z w = true := by
      have := hB.2
      rw [if_pos cp] at this
      exact this
    have hic := hbx hb
    have e56' : v56 = nI (274 + 510 * v + 47 + 10 * (z - 1) + 2 * i) := by rw [e56]
    clear e56
    subst e56'
    refine ⟨100, ?_⟩
    have k55 : kQ q q55 [0] := by rw [e55]; exact kQ.rf.up (by decide) _
    refine rl_dn (μ := q 0) (c := c) (i := i) hv h1 h9 hc hic (2 * (c - 1) - 2 * i) _ 100 q55 (by omega) (Nat.le_refl _) (by omega) ?_ (fun q1 g1 g2 => ⟨by rw [hB0]; rfl, rfl, k55.tr g1 (fun _ h => h) (fun _ h => h), fun _ => ?_⟩)
    · rw [e55, va_up_self]
      funext k
      by_cases e : k = 274 + 510 * v + 38 + z - 1
      · subst e
        rw [pk_us, if_pos rfl, nI_p1 (by omega)]
      · rw [pk_un e, if_neg e, if_neg (by omega)]
    · dsimp only
      rw [g2]
      unfold bkS
      rw [if_pos cp, hI, ic]
theorem k_X11_setsBreak (l : Launch) (D : va_G) (T : Nat → ClassId) (m0 : Nat) (a : Nat → Nat) (p0 : Int32) (p1 : Int32) (p2 : Int32) (p3 : Int32) (r : Nat → Int32) (q : Nat → Nat → Int32) (h : WF (q 0) ∧ vix p0 ∧ zix p1 ∧ ∃ n : Nat, n ≤ 9999 ∧ p3 = nI n) : RMi l yX11_setsBreak (ws_X11_setsBreak) rm_X11_setsBreak D T m0 a [.ref m0, .int p0, .int p1, .int p2, .int p3] r q (fun v u => (v = b2i (bkB (q 0) (iv p0) (iv p1) p2 p3) ∧ u.1 = r ∧ kQ q u.2 [0] ∧ (bkB (q 0) (iv p0) (iv p1) p2 p3 = true → u.2 0 = bkS (q 0) (iv p0) (iv p1) p2 p3))) := c_X11_setsBreak l D T m0 a p0 p1 p2 p3 r q _ <|
  (by
    obtain ⟨hw, ⟨v, hv, e0⟩, ⟨z, h1, h9, e1⟩, ⟨p, hp, e3⟩⟩ := h
    subst e0 e1
    obtain ⟨c, hc, ec⟩ := hw.brk hv h1 h9
    have ev : iv (nI v) = v := nI_clamp (by omega)
    have ez : iv (nI z) = z := nI_clamp (by omega)
    have ic : iv (q 0 (274 + 510 * v + 38 + z - 1)) = c := by rw [ec]; exact nI_clamp (by omega)
    rw [ev, ez]
    have hi : bxI (q 0) v z p2 ≤ c := by
      have := (bxF_le (μ := q 0) (v := v) (z := z) (w := p2) (iv (q 0 (274 + 510 * v + 38 + z - 1))) 0).2
      unfold bxI
      omega
    unfold wp_X11_setsBreak
    intro v1 e1
    have e1' : v1 = nI (274 + 510 * v + 38 + z - 1) := by rw [e1]; simp (disch := omega) only [li_2, li_3, li_4, li_5, li_6, li_7, li_8, li_9, li_10, li_12, li_14, li_20, li_26, li_30, li_31, li_36, li_38, li_47, li_48, li_50, li_57, li_58, li_80, li_98, li_99, li_100, li_102, li_104, li_105, li_108, li_109, li_110, li_114, li_115, li_119, li_122, li_137, li_146, li_147, li_148, li_149, li_150, li_200, li_255, li_256, li_274, li_510, li_512, li_640, li_999, li_1000, li_1024, li_3334, li_5000, li_9999, li_10000, li_23338, li_26672, li_30000, li_99999, li_150000, li_300000, pk_mul, nI_add, pk_sub, nI_clamp, nI_1, nI_p1, nI_a0, nI_0a, nI_m0, nI_m1, cl_0, cl_1, z01, z11]
    clear e1
    subst e1'
    refine ⟨100, rl_bx hv h1 h9 hc ec c 0 100 (by omega) (by omega) ?_⟩
    have hI : bxF (q 0) v z p2 c 0 = bxI (q 0) v z p2 := by unfold bxI; rw [ic]
    rw [hI]
    -- the flag
    have main : wp_X11_setsBreak_83 (fun v1 u => v1 = b2i (bkB (q 0) v z p2 p3) ∧ u.1 = r ∧ kQ q u.2 [0] ∧ (bkB (q 0) v z p2 p3 = true → u.2 0 = bkS (q 0) v z p2 p3)) (nI v) (nI z) p2 p3 (nI (274 + 510 * v + 38 + z - 1)) (nI (bxI (q 0) v z p2)) (b2i (bxB (q 0) v z p2)) r q := by
      have yes := fun hB => w_sb125 (r := r) (p := p3) hv h1 h9 hc ec hi hB
      have no : bkB (q 0) v z p2 p3 = false → ((fun (v1 : Int32) (u : RST) => v1 = b2i (bkB (q 0) v z p2 p3) ∧ u.1 = r ∧ kQ q u.2 [0] ∧ (bkB (q 0) v z p2 p3 = true → u.2 0 = bkS (q 0) v z p2 p3)) 0 (r, q)) := fun hB => ⟨by rw [hB]; rfl, rfl, kQ.rf, fun z => by rw [hB] at z; cases z⟩
      generalize hbb : bxB (q 0) v z p2 = b at *
      have e5 : (q 0 (274 + 510 * v + 38 + z - 1) = (5 : Int32)) = (c = 5) := by rw [ec]; exact propext (nI_eq (b := 5) (by omega) (by decide))
      have eb : bkB (q 0) v z p2 p3 = (!decide (99 < p3) && (if p3 = 0 then b else b || !decide (q 0 (274 + 510 * v + 38 + z - 1) = 5))) := by unfold bkB; rw [hbb]
      unfold wp_X11_setsBreak_83
      rw [show vp_in (nI (274 + 510 * v + 38 + z - 1)) 3334 = (274 + 510 * v + 38 + z - 1 < 3334) from nz_vp (by omega) (by decide), nI_clamp (n := 274 + 510 * v + 38 + z - 1) (by omega)]
      refine ⟨fun c1 => no (by rw [eb, decide_eq_true c1]; rfl), fun c1 => ⟨fun c2 => ⟨fun c3 => ?_, fun c3 => ⟨fun c4 => ?_, fun c4 => ⟨by omega, fun c5 => ?_, fun c5 => ?_⟩⟩⟩, fun c2 => ⟨fun c4 => ?_, fun c4 => ⟨fun c3 => ?_, fun c3 => absurd (by rw [c2]; decide) c3⟩⟩⟩⟩
      · exfalso
        rw [e3] at c2 c3
        rw [nz_le0 (by omega)] at c3
        rw [nz_eq0 (by omega)] at c2
        omega
      · have hb : b = true := bx_of rfl c4
        refine yes ?_
        rw [eb, decide_eq_false c1, if_neg c2, hb]; rfl
      · have hb : b = false := (b2i_0 _).mp c4
        refine yes ?_
        rw [eb, decide_eq_false c1, if_neg c2, hb, decide_eq_false c5]; rfl
      · have hb : b = false := (b2i_0 _).mp c4
        refine no ?_
        rw [eb, decide_eq_false c1, if_neg c2, hb, decide_eq_true c5]; rfl
      · have hb : b = false := (b2i_0 _).mp c4
        refine no ?_
        rw [eb, decide_eq_false c1, if_pos c2, hb]; rfl
      · have hb : b = true := bx_of rfl c4
        refine yes ?_
        rw [eb, decide_eq_false c1, if_pos c2, hb]; rfl
    unfold wp_X11_setsBreak_50
    simp (disch := omega) only [li_2, li_3, li_4, li_5, li_6, li_7, li_8, li_9, li_10, li_12, li_14, li_20, li_26, li_30, li_31, li_36, li_38, li_47, li_48, li_50, li_57, li_58, li_80, li_98, li_99, li_100, li_102, li_104, li_105, li_108, li_109, li_110, li_114, li_115, li_119, li_122, li_137, li_146, li_147, li_148, li_149, li_150, li_200, li_255, li_256, li_274, li_510, li_512, li_640, li_999, li_1000, li_1024, li_3334, li_5000, li_9999, li_10000, li_23338, li_26672, li_30000, li_99999, li_150000, li_300000, pk_mul, nI_add, pk_sub, nI_clamp, nI_1, nI_p1, nI_a0, nI_0a, nI_m0, nI_m1, cl_0, cl_1, z01, z11, nI_leI, nI_ltI, nI_eq, nz_lt0, nz_le, nz_eq0, nz_pos, nz_le0, nz_eq1, nz_lt1, nz_ge1, nz_le1, nz_gt1, nz_vp, nz_vp0, nz_vp1, six_nI, vix_nI, bix_nI, pix_nI, fix_nI, gix_nI, rix_nI, zix_nI, pix_0, pix_1, bix_0, fix_0, fix_1, rix_1, true_and, and_true]
    rw [ec]
    simp (disch := omega) only [li_2, li_3, li_4, li_5, li_6, li_7, li_8, li_9, li_10, li_12, li_14, li_20, li_26, li_30, li_31, li_36, li_38, li_47, li_48, li_50, li_57, li_58, li_80, li_98, li_99, li_100, li_102, li_104, li_105, li_108, li_109, li_110, li_114, li_115, li_119, li_122, li_137, li_146, li_147, li_148, li_149, li_150, li_200, li_255, li_256, li_274, li_510, li_512, li_640, li_999, li_1000, li_1024, li_3334, li_5000, li_9999, li_10000, li_23338, li_26672, li_30000, li_99999, li_150000, li_300000, pk_mul, nI_add, pk_sub, nI_clamp, nI_1, nI_p1, nI_a0, nI_0a, nI_m0, nI_m1, cl_0, cl_1, z01, z11, nI_leI, nI_ltI, nI_eq, nz_lt0, nz_le, nz_eq0, nz_pos, nz_le0, nz_eq1, nz_lt1, nz_ge1, nz_le1, nz_gt1, nz_vp, nz_vp0, nz_vp1, six_nI, vix_nI, bix_nI, pix_nI, fix_nI, gix_nI, rix_nI, zix_nI, pix_0, pix_1, bix_0, fix_0, fix_1, rix_1, true_and, and_true]
    refine ⟨by omega, fun c1 => ?_, fun c1 => ⟨by omega, fun c2 => ?_, fun c2 => ?_⟩⟩
    · have hb : bxB (q 0) v z p2 = false := by unfold bxB; rw [ic, decide_eq_false (by omega)]; rfl
      rw [hb] at main; exact main
    · have hb : bxB (q 0) v z p2 = false := by unfold bxB; rw [decide_eq_false c2, Bool.and_false]
      rw [hb] at main; exact main
    · have hb : bxB (q 0) v z p2 = true := by unfold bxB; rw [ic, decide_eq_true (by omega), decide_eq_true c2]; rfl
      rw [hb] at main; exact main)
abbrev ws_X11_removes : List Cond := Cond.code yX11_removes cX11_removes 5 (some .boolean) :: W0
abbrev rm_X11_removes : Room := ({ frames := 2, cells := 0, slots := 0, locals := 41 } : Room)
def wb_X11_removes_23 (rec : Int32 → Int32 → Int32 → Int32 → (Nat → Int32) → (Nat → Nat → Int32) → Prop) (P : Int32 → RST → Prop) (x1 : Int32) (x2 : Int32) (x3 : Int32) (x4 : Int32) (r : Nat → Int32) (q : Nat → Nat → Int32) : Prop := (36 ≤ x4 → (vz x3 ∧ P x3 (r, q))) ∧ (¬ 36 ≤ x4 → (vp_in ((274 + 510 * x1 + 150 + 36 * x2) + x4) 3334 ∧ (∀ q5 : Nat → Nat → Int32, q5 = va_up q 0 (upd (q 0) (Int32.toNatClampNeg ((274 + 510 * x1 + 150 + 36 * x2) + x4)) 0) → (∀ v6 : Int32, v6 = x4 + 1 → (rec x1 x2 x3 v6 r q5)))))
def wp_X11_removes_23 (P : Int32 → RST → Prop) : Nat → Int32 → Int32 → Int32 → Int32 → (Nat → Int32) → (Nat → Nat → Int32) → Prop
  | 0 => fun _ _ _ _ _ _ => False
  | n + 1 => fun x1 x2 x3 x4 r q => wb_X11_removes_23 (wp_X11_removes_23  P n)  P x1 x2 x3 x4 r q
set_option maxRecDepth 100000 in
set_option maxHeartbeats 4000000 in
theorem t_X11_removes_23 {p : Program} {l : Launch} {e : Env} {s : State} {m : MethodId} {args : Array Value} {below : List Frame} {meth : Method} {c : Code} {D : va_G} {A : Nat → Prop} {T : Nat → ClassId} {m0 : Nat} {a : Nat → Nat} (C : GC p s m args meth c cX11_removes "FreightRaterModel" (ws_X11_removes) 5 D A (zty T)) (hr : meth.sig.returnType = (some .boolean)) (P : Int32 → RST → Prop) : ∀ (n : Nat) (x1 : Int32) (x2 : Int32) (x3 : Int32) (x4 : Int32) (r : Nat → Int32) (q : Nat → Nat → Int32), wp_X11_removes_23  P n x1 x2 x3 x4 r q → GW p l e rm_X11_removes s m args below meth c D A 5 0 0 (MQ below (va_Qi P (RE D T m0 a A) A) args s 0 0 A) (RW m0 a T r q) 0 0 23 [(0, .ref m0), (1, .int x1), (2, .int x2), (3, .int x3), (4, .int x4)] [] := by
  have hw : ∀ {w : Cond}, w ∈ W0 → w.before args s = true := fun h => C.2.2.2.2.1 _ (List.mem_cons_of_mem _ h)
  intro n
  induction n with
  | zero => intro x1 x2 x3 x4 r q h; exact h.elim
  | succ n ih =>
    intro x1 x2 x3 x4 r q h
    replace h : wb_X11_removes_23 (wp_X11_removes_23  P n)  P x1 x2 x3 x4 r q := h
    unfold wb_X11_removes_23 at h
    refine g_iload C dX11_removes_23 4 rfl ?_
    refine g_bipush (v := 36) C dX11_removes_25 (by decide) ?_
    refine g_icmp_ge (tgt := 50) C dX11_removes_27 (by decide) (fun z3 => ?_) (fun z3 => ?_)
    · replace h := h.1 z3
      refine g_iload_n C dX11_removes_50 rfl 3 rfl ?_
      exact gr_zret C hr h.1 dX11_removes_51 h.2
    · replace h := h.2 z3
      refine g_aload_n C dX11_removes_30 rfl 0 rfl ?_
      refine gr_get C iwx_X11 0 (hw kw_1809) (by decide) rfl rfl dX11_removes_31 ?_
      refine g_iload_n C dX11_removes_34 rfl 1 rfl ?_
      refine g_iload_n C dX11_removes_35 rfl 2 rfl ?_
      refine gr_callSf C [.int x1, .int x2] rfl (k_X11_extra l D T m0 a x1 x2 r q) (w0_S 2 C.2.2.2.2.1 kw_1978 kw_1979 kw_9 kw_1980 rfl rfl (by decide +kernel) ⟨by decide, by decide⟩) rfl (Nat.le_of_ble_eq_true rfl) (Nat.zero_le _) (Nat.zero_le _) dX11_removes_36 ?_
      refine g_iload C dX11_removes_39 4 rfl ?_
      refine g_iadd C dX11_removes_41 ?_
      refine g_iconst (v := 0) C dX11_removes_42 (by decide) ?_
      obtain ⟨g4, h⟩ := h
      refine gr_ast_0 C g4 dX11_removes_43 ?_
      refine gr_nq (fun q5 eq5 => ?_)
      replace h := h q5 eq5
      obtain ⟨v6, ev6⟩ : ∃ y : Int32, y = x4 + 1 := ⟨_, rfl⟩
      replace h := h v6 ev6
      refine g_iinc (v := v6) (lv' := [(4, .int v6), (0, .ref m0), (1, .int x1), (2, .int x2), (3, .int x3)]) C dX11_removes_44 (j := 4) rfl (by rw [ev6]; rfl) (by decide) rfl ?_
      refine g_goto (tgt := 23) C dX11_removes_47 (by decide) ?_
      refine g_locals [1, 2, 3, 4, 0] rfl ?_
      exact ih x1 x2 x3 v6 r q5 h
def wp_X11_removes (P : Int32 → RST → Prop) (p0 : Int32) (p1 : Int32) (r : Nat → Int32) (q : Nat → Nat → Int32) : Prop := vp_in (274 + 510 * p0 + 150 + 36 * p1) 3334 ∧ ((¬ (q 0 (Int32.toNatClampNeg (274 + 510 * p0 + 150 + 36 * p1))) = 1 → (∃ k7 : Nat, wp_X11_removes_23  P k7 p0 p1 0 0 r q)) ∧ ((q 0 (Int32.toNatClampNeg (274 + 510 * p0 + 150 + 36 * p1))) = 1 → (∃ k8 : Nat, wp_X11_removes_23  P k8 p0 p1 1 0 r q)))
set_option maxRecDepth 100000 in
set_option maxHeartbeats 4000000 in
theorem t_X11_removes {p : Program} {l : Launch} {e : Env} {s : State} {m : MethodId} {args : Array Value} {below : List Frame} {meth : Method} {c : Code} {D : va_G} {A : Nat → Prop} {T : Nat → ClassId} {m0 : Nat} {a : Nat → Nat} (C : GC p s m args meth c cX11_removes "FreightRaterModel" (ws_X11_removes) 5 D A (zty T)) (hr : meth.sig.returnType = (some .boolean)) (P : Int32 → RST → Prop) : ∀ (p0 : Int32) (p1 : Int32) (r : Nat → Int32) (q : Nat → Nat → Int32), wp_X11_removes P p0 p1 r q → GW p l e rm_X11_removes s m args below meth c D A 5 0 0 (MQ below (va_Qi P (RE D T m0 a A) A) args s 0 0 A) (RW m0 a T r q) 0 0 0 [(0, .ref m0), (1, .int p0), (2, .int p1)] [] := by
  have hw : ∀ {w : Cond}, w ∈ W0 → w.before args s = true := fun h => C.2.2.2.2.1 _ (List.mem_cons_of_mem _ h)
  intro p0 p1 r q h
  unfold wp_X11_removes at h
  refine g_aload_n C dX11_removes_0 rfl 0 rfl ?_
  refine gr_get C iwx_X11 0 (hw kw_1809) (by decide) rfl rfl dX11_removes_1 ?_
  refine g_iload_n C dX11_removes_4 rfl 1 rfl ?_
  refine g_iload_n C dX11_removes_5 rfl 2 rfl ?_
  refine gr_callSf C [.int p0, .int p1] rfl (k_X11_extra l D T m0 a p0 p1 r q) (w0_S 2 C.2.2.2.2.1 kw_1978 kw_1979 kw_9 kw_1980 rfl rfl (by decide +kernel) ⟨by decide, by decide⟩) rfl (Nat.le_of_ble_eq_true rfl) (Nat.zero_le _) (Nat.zero_le _) dX11_removes_6 ?_
  obtain ⟨g1, h⟩ := h
  refine gr_ald_0 C g1 dX11_removes_9 ?_
  refine g_iconst (v := 1) C dX11_removes_10 (by decide) ?_
  refine g_icmp_ne (tgt := 18) C dX11_removes_11 (by decide) (fun z2 => ?_) (fun z2 => ?_)
  · replace h := h.1 z2
    refine g_iconst (v := 0) C dX11_removes_18 (by decide) ?_
    refine g_istore_n (lv' := [(3, .int 0), (0, .ref m0), (1, .int p0), (2, .int p1)]) C dX11_removes_19 rfl (by decide) rfl ?_
    refine g_iconst (v := 0) C dX11_removes_20 (by decide) ?_
    refine g_istore (lv' := [(4, .int 0), (3, .int 0), (0, .ref m0), (1, .int p0), (2, .int p1)]) C dX11_removes_21 (by decide) rfl ?_
    refine g_locals [2, 3, 4, 1, 0] rfl ?_
    obtain ⟨k7, h⟩ := h
    refine t_X11_removes_23 C hr  P  k7 p0 p1 0 0 r q h
  · replace h := h.2 z2
    refine g_iconst (v := 1) C dX11_removes_14 (by decide) ?_
    refine g_goto (tgt := 19) C dX11_removes_15 (by decide) ?_
    refine g_istore_n (lv' := [(3, .int 1), (0, .ref m0), (1, .int p0), (2, .int p1)]) C dX11_removes_19 rfl (by decide) rfl ?_
    refine g_iconst (v := 0) C dX11_removes_20 (by decide) ?_
    refine g_istore (lv' := [(4, .int 0), (3, .int 1), (0, .ref m0), (1, .int p0), (2, .int p1)]) C dX11_removes_21 (by decide) rfl ?_
    refine g_locals [2, 3, 4, 1, 0] rfl ?_
    obtain ⟨k8, h⟩ := h
    refine t_X11_removes_23 C hr  P  k8 p0 p1 1 0 r q h
theorem c_X11_removes (l : Launch) (D : va_G) (T : Nat → ClassId) (m0 : Nat) (a : Nat → Nat) (p0 : Int32) (p1 : Int32) (r : Nat → Int32) (q : Nat → Nat → Int32) (P : Int32 → RST → Prop) (h : wp_X11_removes P p0 p1 r q) : RMi l yX11_removes (ws_X11_removes) rm_X11_removes D T m0 a [.ref m0, .int p0, .int p1] r q P := gr_meti (by decide) rfl rfl (Nat.le_of_ble_eq_true rfl) (fun p e s m args below meth c A C hr => t_X11_removes C hr P p0 p1 r q h)
theorem rl_rm {P : Int32 → RST → Prop} {r : Nat → Int32} {μ : Nat → Int32} {v a : Nat} {x : Int32} (hv : v < 6) (ha : a < 10) (hx : vz x) : ∀ (m j fuel : Nat) (q : Nat → Nat → Int32), j + m = 36 → m < fuel → q 0 = zf μ (274 + 510 * v + 150 + 36 * a) j → (∀ q1, kQ q q1 [0] → q1 0 = zf μ (274 + 510 * v + 150 + 36 * a) 36 → P x (r, q1)) → wp_X11_removes_23 P fuel (nI v) (nI a) x (nI j) r q := by
  intro m
  induction m with
  | zero =>
    intro j fuel q hm hf hq hK
    obtain ⟨f, rfl⟩ : ∃ f, fuel = f + 1 := ⟨fuel - 1, by omega⟩; rw [wp_X11_removes_23]; unfold wb_X11_removes_23; dsimp only
    simp (disch := omega) only [li_2, li_3, li_4, li_5, li_6, li_7, li_8, li_9, li_10, li_12, li_14, li_20, li_26, li_30, li_31, li_36, li_38, li_47, li_48, li_50, li_57, li_58, li_80, li_98, li_99, li_100, li_102, li_104, li_105, li_108, li_109, li_110, li_114, li_115, li_119, li_122, li_137, li_146, li_147, li_148, li_149, li_150, li_200, li_255, li_256, li_274, li_510, li_512, li_640, li_999, li_1000, li_1024, li_3334, li_5000, li_9999, li_10000, li_23338, li_26672, li_30000, li_99999, li_150000, li_300000, pk_mul, nI_add, pk_sub, nI_clamp, nI_1, nI_p1, nI_a0, nI_0a, nI_m0, nI_m1, cl_0, cl_1, z01, z11, nI_leI, nI_ltI, nI_eq, nz_lt0, nz_le, nz_eq0, nz_pos, nz_le0, nz_eq1, nz_lt1, nz_ge1, nz_le1, nz_gt1, nz_vp, nz_vp0, nz_vp1, six_nI, vix_nI, bix_nI, pix_nI, fix_nI, gix_nI, rix_nI, zix_nI, pix_0, pix_1, bix_0, fix_0, fix_1, rix_1, true_and, and_true]
    refine ⟨fun _ => ⟨hx, hK q kQ.rf ?_⟩, fun c => absurd (by omega) c⟩
    rw [hq, show j = 36 by omega]
  | succ m ih =>
    intro j fuel q hm hf hq hK
    obtain ⟨f, rfl⟩ : ∃ f, fuel = f + 1 := ⟨fuel - 1, by omega⟩; rw [wp_X11_removes_23]; unfold wb_X11_removes_23; dsimp only
    simp (disch := omega) only [li_2, li_3, li_4, li_5, li_6, li_7, li_8, li_9, li_10, li_12, li_14, li_20, li_26, li_30, li_31, li_36, li_38, li_47, li_48, li_50, li_57, li_58, li_80, li_98, li_99, li_100, li_102, li_104, li_105, li_108, li_109, li_110, li_114, li_115, li_119, li_122, li_137, li_146, li_147, li_148, li_149, li_150, li_200, li_255, li_256, li_274, li_510, li_512, li_640, li_999, li_1000, li_1024, li_3334, li_5000, li_9999, li_10000, li_23338, li_26672, li_30000, li_99999, li_150000, li_300000, pk_mul, nI_add, pk_sub, nI_clamp, nI_1, nI_p1, nI_a0, nI_0a, nI_m0, nI_m1, cl_0, cl_1, z01, z11, nI_leI, nI_ltI, nI_eq, nz_lt0, nz_le, nz_eq0, nz_pos, nz_le0, nz_eq1, nz_lt1, nz_ge1, nz_le1, nz_gt1, nz_vp, nz_vp0, nz_vp1, six_nI, vix_nI, bix_nI, pix_nI, fix_nI, gix_nI, rix_nI, zix_nI, pix_0, pix_1, bix_0, fix_0, fix_1, rix_1, true_and, and_true]
    refine ⟨fun c => absurd c (by omega), fun _ => ⟨by omega, fun q5 e5 v6 e6 => ?_⟩⟩
    subst e6
    have k5 : kQ q q5 [0] := by rw [e5]; exact kQ.rf.up (by decide) _
    refine ih (j + 1) f q5 (by omega) (by omega) ?_ (fun q1 h1 h2 => hK q1 (k5.tr h1 (fun _ h => h) (fun _ h => h)) h2)
    rw [e5, va_up_self, hq]
    funext k
    unfold zf
    by_cases e : k = 274 + 510 * v + 150 + 36 * a + j
    · subst e
      rw [pk_us, if_pos (by omega)]
    · rw [pk_un e]
      by_cases c : 274 + 510 * v + 150 + 36 * a ≤ k ∧ k < 274 + 510 * v + 150 + 36 * a + j
      · rw [if_pos c, if_pos (by omega)]
      · rw [if_neg c, if_neg (by omega)]
theorem k_X11_removes (l : Launch) (D : va_G) (T : Nat → ClassId) (m0 : Nat) (a : Nat → Nat) (p0 : Int32) (p1 : Int32) (r : Nat → Int32) (q : Nat → Nat → Int32) (h : vix p0 ∧ six p1) : RMi l yX11_removes (ws_X11_removes) rm_X11_removes D T m0 a [.ref m0, .int p0, .int p1] r q (fun v u => (v = b2i (decide (q 0 (274 + 510 * iv p0 + 150 + 36 * iv p1) = 1)) ∧ u.1 = r ∧ u.2 = va_up q 0 (zf (q 0) (274 + 510 * iv p0 + 150 + 36 * iv p1) 36))) := c_X11_removes l D T m0 a p0 p1 r q _ <|
  (by
    obtain ⟨⟨v, hv, e0⟩, ⟨a, ha, e1⟩⟩ := h
    subst e0 e1
    have ev : iv (nI v) = v := nI_clamp (by omega)
    have ea : iv (nI a) = a := nI_clamp (by omega)
    rw [ev, ea]
    unfold wp_X11_removes
    simp (disch := omega) only [li_2, li_3, li_4, li_5, li_6, li_7, li_8, li_9, li_10, li_12, li_14, li_20, li_26, li_30, li_31, li_36, li_38, li_47, li_48, li_50, li_57, li_58, li_80, li_98, li_99, li_100, li_102, li_104, li_105, li_108, li_109, li_110, li_114, li_115, li_119, li_122, li_137, li_146, li_147, li_148, li_149, li_150, li_200, li_255, li_256, li_274, li_510, li_512, li_640, li_999, li_1000, li_1024, li_3334, li_5000, li_9999, li_10000, li_23338, li_26672, li_30000, li_99999, li_150000, li_300000, pk_mul, nI_add, pk_sub, nI_clamp, nI_1, nI_p1, nI_a0, nI_0a, nI_m0, nI_m1, cl_0, cl_1, z01, z11, nI_leI, nI_ltI, nI_eq, nz_lt0, nz_le, nz_eq0, nz_pos, nz_le0, nz_eq1, nz_lt1, nz_ge1, nz_le1, nz_gt1, nz_vp, nz_vp0, nz_vp1, six_nI, vix_nI, bix_nI, pix_nI, fix_nI, gix_nI, rix_nI, zix_nI, pix_0, pix_1, bix_0, fix_0, fix_1, rix_1, true_and, and_true]
    have fin : ∀ x : Int32, vz x → x = b2i (decide (q 0 (274 + 510 * v + 150 + 36 * a) = 1)) → ∃ k7 : Nat, wp_X11_removes_23 (fun v1 u => v1 = b2i (decide (q 0 (274 + 510 * v + 150 + 36 * a) = 1)) ∧ u.1 = r ∧ u.2 = va_up q 0 (zf (q 0) (274 + 510 * v + 150 + 36 * a) 36)) k7 (nI v) (nI a) x (nI 0) r q := by
      intro x hx he
      refine ⟨100, rl_rm (μ := q 0) hv ha hx 36 0 100 q (by omega) (by omega) ?_ (fun q1 h1 h2 => ⟨he, rfl, ?_⟩)⟩
      · funext k
        unfold zf
        rw [if_neg (by omega)]
      · dsimp only
        funext j
        by_cases e : j = 0
        · rw [e, h2, va_up_self]
        · rw [va_up_ne _ _ e]; exact h1 j (by simpa using e)
    refine ⟨by omega, fun c => ?_, fun c => ?_⟩
    · exact fin 0 vz0 (by rw [decide_eq_false c]; rfl)
    · exact fin 1 vz1 (by rw [decide_eq_true c]; rfl))
abbrev ws_X11_sets : List Cond := Cond.code yX11_sets cX11_sets 7 (some .boolean) :: W0
abbrev rm_X11_sets : Room := ({ frames := 2, cells := 0, slots := 0, locals := 41 } : Room)
def wb_X11_sets_163 (rec : Int32 → Int32 → Int32 → (Nat → Int32) → (Nat → Nat → Int32) → Prop) (P : Int32 → RST → Prop) (x2 : Int32) (x5 : Int32) (x6 : Int32) (r : Nat → Int32) (q : Nat → Nat → Int32) : Prop := (30 ≤ x6 → (P 1 (r, q))) ∧ (¬ 30 ≤ x6 → (vp_in (x5 + 4) 3334 ∧ (((q 0 (Int32.toNatClampNeg (x5 + 4))) ≤ x6 → (vp_in ((x5 + 6) + x6) 3334 ∧ (∀ q30 : Nat → Nat → Int32, q30 = va_up q 0 (upd (q 0) (Int32.toNatClampNeg ((x5 + 6) + x6)) 0) → (∀ v31 : Int32, v31 = x6 + 1 → (rec x2 x5 v31 r q30))))) ∧ (¬ (q 0 (Int32.toNatClampNeg (x5 + 4))) ≤ x6 → (vp_in (x2 + 4) 640 ∧ (vp_in ((q 5 (Int32.toNatClampNeg (x2 + 4))) + x6) 80 ∧ (vp_in ((x5 + 6) + x6) 3334 ∧ (∀ q35 : Nat → Nat → Int32, q35 = va_up q 0 (upd (q 0) (Int32.toNatClampNeg ((x5 + 6) + x6)) (q 6 (Int32.toNatClampNeg ((q 5 (Int32.toNatClampNeg (x2 + 4))) + x6)))) → (∀ v36 : Int32, v36 = x6 + 1 → (rec x2 x5 v36 r q35))))))))))
def wp_X11_sets_163 (P : Int32 → RST → Prop) : Nat → Int32 → Int32 → Int32 → (Nat → Int32) → (Nat → Nat → Int32) → Prop
  | 0 => fun _ _ _ _ _ => False
  | n + 1 => fun x2 x5 x6 r q => wb_X11_sets_163 (wp_X11_sets_163  P n)  P x2 x5 x6 r q
set_option maxRecDepth 100000 in
set_option maxHeartbeats 4000000 in
theorem t_X11_sets_163 {p : Program} {l : Launch} {e : Env} {s : State} {m : MethodId} {args : Array Value} {below : List Frame} {meth : Method} {c : Code} {D : va_G} {A : Nat → Prop} {T : Nat → ClassId} {m0 : Nat} {a : Nat → Nat} (C : GC p s m args meth c cX11_sets "FreightRaterModel" (ws_X11_sets) 7 D A (zty T)) (hr : meth.sig.returnType = (some .boolean)) (P : Int32 → RST → Prop) : ∀ (n : Nat) (x2 : Int32) (x5 : Int32) (x6 : Int32) (r : Nat → Int32) (q : Nat → Nat → Int32), wp_X11_sets_163  P n x2 x5 x6 r q → GW p l e rm_X11_sets s m args below meth c D A 7 0 0 (MQ below (va_Qi P (RE D T m0 a A) A) args s 0 0 A) (RW m0 a T r q) 0 0 163 [(0, .ref m0), (2, .int x2), (5, .int x5), (6, .int x6)] [] := by
  have hw : ∀ {w : Cond}, w ∈ W0 → w.before args s = true := fun h => C.2.2.2.2.1 _ (List.mem_cons_of_mem _ h)
  intro n
  induction n with
  | zero => intro x2 x5 x6 r q h; exact h.elim
  | succ n ih =>
    intro x2 x5 x6 r q h
    replace h : wb_X11_sets_163 (wp_X11_sets_163  P n)  P x2 x5 x6 r q := h
    unfold wb_X11_sets_163 at h
    refine g_iload C dX11_sets_163 3 rfl ?_
    refine g_bipush (v := 30) C dX11_sets_165 (by decide) ?_
    refine g_icmp_ge (tgt := 223) C dX11_sets_167 (by decide) (fun z26 => ?_) (fun z26 => ?_)
    · replace h := h.1 z26
      refine g_iconst (v := 1) C dX11_sets_223 (by decide) ?_
      exact gr_zret C hr vz1 dX11_sets_224 h
    · replace h := h.2 z26
      refine g_aload_n C dX11_sets_170 rfl 0 rfl ?_
      refine gr_get C iwx_X11 0 (hw kw_1809) (by decide) rfl rfl dX11_sets_171 ?_
      refine g_iload C dX11_sets_174 2 rfl ?_
      refine g_bipush (v := 6) C dX11_sets_176 (by decide) ?_
      refine g_iadd C dX11_sets_178 ?_
      refine g_iload C dX11_sets_179 3 rfl ?_
      refine g_iadd C dX11_sets_181 ?_
      refine g_iload C dX11_sets_182 3 rfl ?_
      refine g_aload_n C dX11_sets_184 rfl 0 rfl ?_
      refine gr_get C iwx_X11 0 (hw kw_1809) (by decide) rfl rfl dX11_sets_185 ?_
      refine g_iload C dX11_sets_188 2 rfl ?_
      refine g_iconst (v := 4) C dX11_sets_190 (by decide) ?_
      refine g_iadd C dX11_sets_191 ?_
      obtain ⟨g27, h⟩ := h
      refine gr_ald_0 C g27 dX11_sets_192 ?_
      refine g_icmp_ge (tgt := 215) C dX11_sets_193 (by decide) (fun z28 => ?_) (fun z28 => ?_)
      · replace h := h.1 z28
        refine g_iconst (v := 0) C dX11_sets_215 (by decide) ?_
        obtain ⟨g29, h⟩ := h
        refine gr_ast_0 C g29 dX11_sets_216 ?_
        refine gr_nq (fun q30 eq30 => ?_)
        replace h := h q30 eq30
        obtain ⟨v31, ev31⟩ : ∃ y : Int32, y = x6 + 1 := ⟨_, rfl⟩
        replace h := h v31 ev31
        refine g_iinc (v := v31) (lv' := [(6, .int v31), (0, .ref m0), (2, .int x2), (5, .int x5)]) C dX11_sets_217 (j := 3) rfl (by rw [ev31]; rfl) (by decide) rfl ?_
        refine g_goto (tgt := 163) C dX11_sets_220 (by decide) ?_
        refine g_locals [1, 2, 3, 0] rfl ?_
        exact ih x2 x5 v31 r q30 h
      · replace h := h.2 z28
        refine g_aload_n C dX11_sets_196 rfl 0 rfl ?_
        refine gr_get C iwx_X11 16 (hw kw_1825) (by decide) rfl rfl dX11_sets_197 ?_
        refine g_aload_n C dX11_sets_200 rfl 0 rfl ?_
        refine gr_get C iwx_X11 14 (hw kw_1823) (by decide) rfl rfl dX11_sets_201 ?_
        refine g_iload_n C dX11_sets_204 rfl 1 rfl ?_
        refine g_iconst (v := 4) C dX11_sets_205 (by decide) ?_
        refine g_iadd C dX11_sets_206 ?_
        obtain ⟨g32, h⟩ := h
        refine gr_ald_5 C g32 dX11_sets_207 ?_
        refine g_iload C dX11_sets_208 3 rfl ?_
        refine g_iadd C dX11_sets_210 ?_
        obtain ⟨g33, h⟩ := h
        refine gr_ald_6 C g33 dX11_sets_211 ?_
        refine g_goto (tgt := 216) C dX11_sets_212 (by decide) ?_
        obtain ⟨g34, h⟩ := h
        refine gr_ast_0 C g34 dX11_sets_216 ?_
        refine gr_nq (fun q35 eq35 => ?_)
        replace h := h q35 eq35
        obtain ⟨v36, ev36⟩ : ∃ y : Int32, y = x6 + 1 := ⟨_, rfl⟩
        replace h := h v36 ev36
        refine g_iinc (v := v36) (lv' := [(6, .int v36), (0, .ref m0), (2, .int x2), (5, .int x5)]) C dX11_sets_217 (j := 3) rfl (by rw [ev36]; rfl) (by decide) rfl ?_
        refine g_goto (tgt := 163) C dX11_sets_220 (by decide) ?_
        refine g_locals [1, 2, 3, 0] rfl ?_
        exact ih x2 x5 v36 r q35 h
def wp_X11_sets_32 (P : Int32 → RST → Prop) (x1 : Int32) (x2 : Int32) (x3 : Int32) (s0 : Int32) (r : Nat → Int32) (q : Nat → Nat → Int32) : Prop := vp_in (x2 + 2) 640 ∧ (((q 5 (Int32.toNatClampNeg (x2 + 2))) ≤ s0 → (vp_in (x2 + 1) 640 ∧ (∀ v8 : Int32, v8 = (274 + 510 * x1 + 150 + 36 * (q 5 (Int32.toNatClampNeg (x2 + 1)))) → (vp_in v8 3334 ∧ (∀ q10 : Nat → Nat → Int32, q10 = va_up q 0 (upd (q 0) (Int32.toNatClampNeg v8) 1) → (vp_in (x2 + 2) 640 ∧ (vp_in (v8 + 1) 3334 ∧ (∀ q13 : Nat → Nat → Int32, q13 = va_up q10 0 (upd (q10 0) (Int32.toNatClampNeg (v8 + 1)) (q10 5 (Int32.toNatClampNeg (x2 + 2)))) → (vp_in (v8 + 2) 3334 ∧ (∀ q15 : Nat → Nat → Int32, q15 = va_up q13 0 (upd (q13 0) (Int32.toNatClampNeg (v8 + 2)) x3) → (vp_in (x2 + 5) 640 ∧ (vp_in (v8 + 3) 3334 ∧ (∀ q18 : Nat → Nat → Int32, q18 = va_up q15 0 (upd (q15 0) (Int32.toNatClampNeg (v8 + 3)) (q15 5 (Int32.toNatClampNeg (x2 + 5)))) → (vp_in (x2 + 6) 640 ∧ (vp_in (x2 + 4) 640 ∧ (vp_in (v8 + 4) 3334 ∧ (∀ q22 : Nat → Nat → Int32, q22 = va_up q18 0 (upd (q18 0) (Int32.toNatClampNeg (v8 + 4)) ((q18 5 (Int32.toNatClampNeg (x2 + 6))) - (q18 5 (Int32.toNatClampNeg (x2 + 4))))) → (vp_in (x2 + 7) 640 ∧ (vp_in (v8 + 5) 3334 ∧ (∀ q25 : Nat → Nat → Int32, q25 = va_up q22 0 (upd (q22 0) (Int32.toNatClampNeg (v8 + 5)) (q22 5 (Int32.toNatClampNeg (x2 + 7)))) → (∃ k37 : Nat, wp_X11_sets_163  P k37 x2 v8 0 r q25))))))))))))))))))))) ∧ (¬ (q 5 (Int32.toNatClampNeg (x2 + 2))) ≤ s0 → (P 0 (r, q))))
set_option maxRecDepth 100000 in
set_option maxHeartbeats 4000000 in
theorem t_X11_sets_32 {p : Program} {l : Launch} {e : Env} {s : State} {m : MethodId} {args : Array Value} {below : List Frame} {meth : Method} {c : Code} {D : va_G} {A : Nat → Prop} {T : Nat → ClassId} {m0 : Nat} {a : Nat → Nat} (C : GC p s m args meth c cX11_sets "FreightRaterModel" (ws_X11_sets) 7 D A (zty T)) (hr : meth.sig.returnType = (some .boolean)) (P : Int32 → RST → Prop) : ∀ (x1 : Int32) (x2 : Int32) (x3 : Int32) (s0 : Int32) (r : Nat → Int32) (q : Nat → Nat → Int32), wp_X11_sets_32  P x1 x2 x3 s0 r q → GW p l e rm_X11_sets s m args below meth c D A 7 0 0 (MQ below (va_Qi P (RE D T m0 a A) A) args s 0 0 A) (RW m0 a T r q) 0 0 32 [(0, .ref m0), (1, .int x1), (2, .int x2), (3, .int x3)] [.int s0] := by
  have hw : ∀ {w : Cond}, w ∈ W0 → w.before args s = true := fun h => C.2.2.2.2.1 _ (List.mem_cons_of_mem _ h)
  intro x1 x2 x3 s0 r q h
  unfold wp_X11_sets_32 at h
  refine g_istore (lv' := [(4, .int s0), (0, .ref m0), (1, .int x1), (2, .int x2), (3, .int x3)]) C dX11_sets_32 (by decide) rfl ?_
  refine g_aload_n C dX11_sets_34 rfl 1 rfl ?_
  refine gr_get C iwx_X11 14 (hw kw_1823) (by decide) rfl rfl dX11_sets_35 ?_
  refine g_iload_n C dX11_sets_38 rfl 3 rfl ?_
  refine g_iconst (v := 2) C dX11_sets_39 (by decide) ?_
  refine g_iadd C dX11_sets_40 ?_
  obtain ⟨g5, h⟩ := h
  refine gr_ald_5 C g5 dX11_sets_41 ?_
  refine g_iload C dX11_sets_42 0 rfl ?_
  refine g_icmp_le (tgt := 49) C dX11_sets_44 (by decide) (fun z6 => ?_) (fun z6 => ?_)
  · replace h := h.1 z6
    refine g_iload_n C dX11_sets_49 rfl 2 rfl ?_
    refine g_aload_n C dX11_sets_50 rfl 1 rfl ?_
    refine gr_get C iwx_X11 14 (hw kw_1823) (by decide) rfl rfl dX11_sets_51 ?_
    refine g_iload_n C dX11_sets_54 rfl 3 rfl ?_
    refine g_iconst (v := 1) C dX11_sets_55 (by decide) ?_
    refine g_iadd C dX11_sets_56 ?_
    obtain ⟨g7, h⟩ := h
    refine gr_ald_5 C g7 dX11_sets_57 ?_
    refine gr_callSf C [.int x1, .int (q 5 (Int32.toNatClampNeg (x2 + 1)))] rfl (k_X11_extra l D T m0 a x1 (q 5 (Int32.toNatClampNeg (x2 + 1))) r q) (w0_S 2 C.2.2.2.2.1 kw_1978 kw_1979 kw_9 kw_1980 rfl rfl (by decide +kernel) ⟨by decide, by decide⟩) rfl (Nat.le_of_ble_eq_true rfl) (Nat.zero_le _) (Nat.zero_le _) dX11_sets_58 ?_
    refine g_topi (fun v8 ev8 => ?_)
    replace h := h v8 ev8
    refine g_istore (lv' := [(5, .int v8), (4, .int s0), (0, .ref m0), (1, .int x1), (2, .int x2), (3, .int x3)]) C dX11_sets_61 (by decide) rfl ?_
    refine g_aload_n C dX11_sets_63 rfl 2 rfl ?_
    refine gr_get C iwx_X11 0 (hw kw_1809) (by decide) rfl rfl dX11_sets_64 ?_
    refine g_iload C dX11_sets_67 0 rfl ?_
    refine g_iconst (v := 1) C dX11_sets_69 (by decide) ?_
    obtain ⟨g9, h⟩ := h
    refine gr_ast_0 C g9 dX11_sets_70 ?_
    refine gr_nq (fun q10 eq10 => ?_)
    replace h := h q10 eq10
    refine g_aload_n C dX11_sets_71 rfl 2 rfl ?_
    refine gr_get C iwx_X11 0 (hw kw_1809) (by decide) rfl rfl dX11_sets_72 ?_
    refine g_iload C dX11_sets_75 0 rfl ?_
    refine g_iconst (v := 1) C dX11_sets_77 (by decide) ?_
    refine g_iadd C dX11_sets_78 ?_
    refine g_aload_n C dX11_sets_79 rfl 2 rfl ?_
    refine gr_get C iwx_X11 14 (hw kw_1823) (by decide) rfl rfl dX11_sets_80 ?_
    refine g_iload_n C dX11_sets_83 rfl 4 rfl ?_
    refine g_iconst (v := 2) C dX11_sets_84 (by decide) ?_
    refine g_iadd C dX11_sets_85 ?_
    obtain ⟨g11, h⟩ := h
    refine gr_ald_5 C g11 dX11_sets_86 ?_
    obtain ⟨g12, h⟩ := h
    refine gr_ast_0 C g12 dX11_sets_87 ?_
    refine gr_nq (fun q13 eq13 => ?_)
    replace h := h q13 eq13
    refine g_aload_n C dX11_sets_88 rfl 2 rfl ?_
    refine gr_get C iwx_X11 0 (hw kw_1809) (by decide) rfl rfl dX11_sets_89 ?_
    refine g_iload C dX11_sets_92 0 rfl ?_
    refine g_iconst (v := 2) C dX11_sets_94 (by decide) ?_
    refine g_iadd C dX11_sets_95 ?_
    refine g_iload_n C dX11_sets_96 rfl 5 rfl ?_
    obtain ⟨g14, h⟩ := h
    refine gr_ast_0 C g14 dX11_sets_97 ?_
    refine gr_nq (fun q15 eq15 => ?_)
    replace h := h q15 eq15
    refine g_aload_n C dX11_sets_98 rfl 2 rfl ?_
    refine gr_get C iwx_X11 0 (hw kw_1809) (by decide) rfl rfl dX11_sets_99 ?_
    refine g_iload C dX11_sets_102 0 rfl ?_
    refine g_iconst (v := 3) C dX11_sets_104 (by decide) ?_
    refine g_iadd C dX11_sets_105 ?_
    refine g_aload_n C dX11_sets_106 rfl 2 rfl ?_
    refine gr_get C iwx_X11 14 (hw kw_1823) (by decide) rfl rfl dX11_sets_107 ?_
    refine g_iload_n C dX11_sets_110 rfl 4 rfl ?_
    refine g_iconst (v := 5) C dX11_sets_111 (by decide) ?_
    refine g_iadd C dX11_sets_112 ?_
    obtain ⟨g16, h⟩ := h
    refine gr_ald_5 C g16 dX11_sets_113 ?_
    obtain ⟨g17, h⟩ := h
    refine gr_ast_0 C g17 dX11_sets_114 ?_
    refine gr_nq (fun q18 eq18 => ?_)
    replace h := h q18 eq18
    refine g_aload_n C dX11_sets_115 rfl 2 rfl ?_
    refine gr_get C iwx_X11 0 (hw kw_1809) (by decide) rfl rfl dX11_sets_116 ?_
    refine g_iload C dX11_sets_119 0 rfl ?_
    refine g_iconst (v := 4) C dX11_sets_121 (by decide) ?_
    refine g_iadd C dX11_sets_122 ?_
    refine g_aload_n C dX11_sets_123 rfl 2 rfl ?_
    refine gr_get C iwx_X11 14 (hw kw_1823) (by decide) rfl rfl dX11_sets_124 ?_
    refine g_iload_n C dX11_sets_127 rfl 4 rfl ?_
    refine g_bipush (v := 6) C dX11_sets_128 (by decide) ?_
    refine g_iadd C dX11_sets_130 ?_
    obtain ⟨g19, h⟩ := h
    refine gr_ald_5 C g19 dX11_sets_131 ?_
    refine g_aload_n C dX11_sets_132 rfl 2 rfl ?_
    refine gr_get C iwx_X11 14 (hw kw_1823) (by decide) rfl rfl dX11_sets_133 ?_
    refine g_iload_n C dX11_sets_136 rfl 4 rfl ?_
    refine g_iconst (v := 4) C dX11_sets_137 (by decide) ?_
    refine g_iadd C dX11_sets_138 ?_
    obtain ⟨g20, h⟩ := h
    refine gr_ald_5 C g20 dX11_sets_139 ?_
    refine g_isub C dX11_sets_140 ?_
    obtain ⟨g21, h⟩ := h
    refine gr_ast_0 C g21 dX11_sets_141 ?_
    refine gr_nq (fun q22 eq22 => ?_)
    replace h := h q22 eq22
    refine g_aload_n C dX11_sets_142 rfl 2 rfl ?_
    refine gr_get C iwx_X11 0 (hw kw_1809) (by decide) rfl rfl dX11_sets_143 ?_
    refine g_iload C dX11_sets_146 0 rfl ?_
    refine g_iconst (v := 5) C dX11_sets_148 (by decide) ?_
    refine g_iadd C dX11_sets_149 ?_
    refine g_aload_n C dX11_sets_150 rfl 2 rfl ?_
    refine gr_get C iwx_X11 14 (hw kw_1823) (by decide) rfl rfl dX11_sets_151 ?_
    refine g_iload_n C dX11_sets_154 rfl 4 rfl ?_
    refine g_bipush (v := 7) C dX11_sets_155 (by decide) ?_
    refine g_iadd C dX11_sets_157 ?_
    obtain ⟨g23, h⟩ := h
    refine gr_ald_5 C g23 dX11_sets_158 ?_
    obtain ⟨g24, h⟩ := h
    refine gr_ast_0 C g24 dX11_sets_159 ?_
    refine gr_nq (fun q25 eq25 => ?_)
    replace h := h q25 eq25
    refine g_iconst (v := 0) C dX11_sets_160 (by decide) ?_
    refine g_istore (lv' := [(6, .int 0), (5, .int v8), (4, .int s0), (0, .ref m0), (1, .int x1), (2, .int x2), (3, .int x3)]) C dX11_sets_161 (by decide) rfl ?_
    refine g_locals [3, 5, 1, 0] rfl ?_
    obtain ⟨k37, h⟩ := h
    refine t_X11_sets_163 C hr  P  k37 x2 v8 0 r q25 h
  · replace h := h.2 z6
    refine g_iconst (v := 0) C dX11_sets_47 (by decide) ?_
    exact gr_zret C hr vz0 dX11_sets_48 h
def wp_X11_sets (P : Int32 → RST → Prop) (p0 : Int32) (p1 : Int32) (r : Nat → Int32) (q : Nat → Nat → Int32) : Prop := vp_in (p1 + 3) 640 ∧ (∀ v2 : Int32, v2 = (q 5 (Int32.toNatClampNeg (p1 + 3))) → ((¬ v2 = 1 → ((¬ v2 = 2 → (wp_X11_sets_32  P p0 p1 v2 9999 r q)) ∧ (v2 = 2 → (wp_X11_sets_32  P p0 p1 v2 50 r q)))) ∧ (v2 = 1 → (wp_X11_sets_32  P p0 p1 v2 99 r q))))
set_option maxRecDepth 100000 in
set_option maxHeartbeats 4000000 in
theorem t_X11_sets {p : Program} {l : Launch} {e : Env} {s : State} {m : MethodId} {args : Array Value} {below : List Frame} {meth : Method} {c : Code} {D : va_G} {A : Nat → Prop} {T : Nat → ClassId} {m0 : Nat} {a : Nat → Nat} (C : GC p s m args meth c cX11_sets "FreightRaterModel" (ws_X11_sets) 7 D A (zty T)) (hr : meth.sig.returnType = (some .boolean)) (P : Int32 → RST → Prop) : ∀ (p0 : Int32) (p1 : Int32) (r : Nat → Int32) (q : Nat → Nat → Int32), wp_X11_sets P p0 p1 r q → GW p l e rm_X11_sets s m args below meth c D A 7 0 0 (MQ below (va_Qi P (RE D T m0 a A) A) args s 0 0 A) (RW m0 a T r q) 0 0 0 [(0, .ref m0), (1, .int p0), (2, .int p1)] [] := by
  have hw : ∀ {w : Cond}, w ∈ W0 → w.before args s = true := fun h => C.2.2.2.2.1 _ (List.mem_cons_of_mem _ h)
  intro p0 p1 r q h
  unfold wp_X11_sets at h
  refine g_aload_n C dX11_sets_0 rfl 0 rfl ?_
  refine gr_get C iwx_X11 14 (hw kw_1823) (by decide) rfl rfl dX11_sets_1 ?_
  refine g_iload_n C dX11_sets_4 rfl 2 rfl ?_
  refine g_iconst (v := 3) C dX11_sets_5 (by decide) ?_
  refine g_iadd C dX11_sets_6 ?_
  obtain ⟨g1, h⟩ := h
  refine gr_ald_5 C g1 dX11_sets_7 ?_
  refine g_topi (fun v2 ev2 => ?_)
  replace h := h v2 ev2
  refine g_istore_n (lv' := [(3, .int v2), (0, .ref m0), (1, .int p0), (2, .int p1)]) C dX11_sets_8 rfl (by decide) rfl ?_
  refine g_iload_n C dX11_sets_9 rfl 0 rfl ?_
  refine g_iconst (v := 1) C dX11_sets_10 (by decide) ?_
  refine g_icmp_ne (tgt := 19) C dX11_sets_11 (by decide) (fun z3 => ?_) (fun z3 => ?_)
  · replace h := h.1 z3
    refine g_iload_n C dX11_sets_19 rfl 0 rfl ?_
    refine g_iconst (v := 2) C dX11_sets_20 (by decide) ?_
    refine g_icmp_ne (tgt := 29) C dX11_sets_21 (by decide) (fun z4 => ?_) (fun z4 => ?_)
    · replace h := h.1 z4
      refine g_sipush (v := 9999) C dX11_sets_29 (by decide) ?_
      refine g_locals [1, 2, 3, 0] rfl ?_
      refine t_X11_sets_32 C hr  P  p0 p1 v2 9999 r q h
    · replace h := h.2 z4
      refine g_bipush (v := 50) C dX11_sets_24 (by decide) ?_
      refine g_goto (tgt := 32) C dX11_sets_26 (by decide) ?_
      refine g_locals [1, 2, 3, 0] rfl ?_
      refine t_X11_sets_32 C hr  P  p0 p1 v2 50 r q h
  · replace h := h.2 z3
    refine g_bipush (v := 99) C dX11_sets_14 (by decide) ?_
    refine g_goto (tgt := 32) C dX11_sets_16 (by decide) ?_
    refine g_locals [1, 2, 3, 0] rfl ?_
    refine t_X11_sets_32 C hr  P  p0 p1 v2 99 r q h
theorem c_X11_sets (l : Launch) (D : va_G) (T : Nat → ClassId) (m0 : Nat) (a : Nat → Nat) (p0 : Int32) (p1 : Int32) (r : Nat → Int32) (q : Nat → Nat → Int32) (P : Int32 → RST → Prop) (h : wp_X11_sets P p0 p1 r q) : RMi l yX11_sets (ws_X11_sets) rm_X11_sets D T m0 a [.ref m0, .int p0, .int p1] r q P := gr_meti (by decide) rfl rfl (Nat.le_of_ble_eq_true rfl) (fun p e s m args below meth c A C hr => t_X11_sets C hr P p0 p1 r q h)
/-- the tests' copying -/
theorem rl_se {P : Int32 → RST → Prop} {r : Nat → Int32} {v a s t n : Nat} {x2 x3 rows excl : Int32} {μ w u : Nat → Int32} (hv : v < 6) (ha : a < 10) (hs : s + 8 ≤ 640) (htn : t + n ≤ 80) (et : w (s + 4) = nI t) : ∀ (m j fuel : Nat) (q : Nat → Nat → Int32), q 5 = w → q 6 = u → j + m = 30 → m < fuel → q 0 = (fun k => if 274 + 510 * v + 150 + 36 * a + 6 ≤ k ∧ k < 274 + 510 * v + 150 + 36 * a + 6 + j then (if k - (274 + 510 * v + 150 + 36 * a + 6) < n then u (t + (k - (274 + 510 * v + 150 + 36 * a + 6))) else 0) else (upd (upd (upd (upd (upd (upd μ (274 + 510 * v + 150 + 36 * a) 1) (274 + 510 * v + 150 + 36 * a + 1) x2) (274 + 510 * v + 150 + 36 * a + 2) x3) (274 + 510 * v + 150 + 36 * a + 3) rows) (274 + 510 * v + 150 + 36 * a + 4) (nI n)) (274 + 510 * v + 150 + 36 * a + 5) excl) k) → (∀ q1, kQ q q1 [0] → q1 0 = seF μ v a x2 x3 rows (nI n) (fun j => u (t + j)) excl → P 1 (r, q1)) → wp_X11_sets_163 P fuel (nI s) (nI (274 + 510 * v + 150 + 36 * a)) (nI j) r q := by
  intro m
  induction m with
  | zero =>
    intro j fuel q h5 h6 hm hf hq hK
    obtain ⟨f, rfl⟩ : ∃ f, fuel = f + 1 := ⟨fuel - 1, by omega⟩; rw [wp_X11_sets_163]; unfold wb_X11_sets_163; dsimp only
    simp (disch := omega) only [li_2, li_3, li_4, li_5, li_6, li_7, li_8, li_9, li_10, li_12, li_14, li_20, li_26, li_30, li_31, li_36, li_38, li_47, li_48, li_50, li_57, li_58, li_80, li_98, li_99, li_100, li_102, li_104, li_105, li_108, li_109, li_110, li_114, li_115, li_119, li_122, li_137, li_146, li_147, li_148, li_149, li_150, li_200, li_255, li_256, li_274, li_510, li_512, li_640, li_999, li_1000, li_1024, li_3334, li_5000, li_9999, li_10000, li_23338, li_26672, li_30000, li_99999, li_150000, li_300000, pk_mul, nI_add, pk_sub, nI_clamp, nI_1, nI_p1, nI_a0, nI_0a, nI_m0, nI_m1, cl_0, cl_1, z01, z11, nI_leI, nI_ltI, nI_eq, nz_lt0, nz_le, nz_eq0, nz_pos, nz_le0, nz_eq1, nz_lt1, nz_ge1, nz_le1, nz_gt1, nz_vp, nz_vp0, nz_vp1, six_nI, vix_nI, bix_nI, pix_nI, fix_nI, gix_nI, rix_nI, zix_nI, pix_0, pix_1, bix_0, fix_0, fix_1, rix_1, true_and, and_true]
    refine ⟨fun _ => hK q kQ.rf ?_, fun c => absurd (by omega) c⟩
    rw [hq, show j = 30 by omega]
    unfold seF
    rw [show iv (nI n) = n from nI_clamp (by omega)]
  | succ m ih =>
    intro j fuel q h5 h6 hm hf hq hK
    have e4 : q 0 (274 + 510 * v + 150 + 36 * a + 4) = nI n := by
      rw [hq]
      dsimp only
      rw [if_neg (by omega), pk_un (by omega), pk_us]
    obtain ⟨f, rfl⟩ : ∃ f, fuel = f + 1 := ⟨fuel - 1, by omega⟩; rw [wp_X11_sets_163]; unfold wb_X11_sets_163; dsimp only
    simp (disch := omega) only [li_2, li_3, li_4, li_5, li_6, li_7, li_8, li_9, li_10, li_12, li_14, li_20, li_26, li_30, li_31, li_36, li_38, li_47, li_48, li_50, li_57, li_58, li_80, li_98, li_99, li_100, li_102, li_104, li_105, li_108, li_109, li_110, li_114, li_115, li_119, li_122, li_137, li_146, li_147, li_148, li_149, li_150, li_200, li_255, li_256, li_274, li_510, li_512, li_640, li_999, li_1000, li_1024, li_3334, li_5000, li_9999, li_10000, li_23338, li_26672, li_30000, li_99999, li_150000, li_300000, pk_mul, nI_add, pk_sub, nI_clamp, nI_1, nI_p1, nI_a0, nI_0a, nI_m0, nI_m1, cl_0, cl_1, z01, z11, nI_leI, nI_ltI, nI_eq, nz_lt0, nz_le, nz_eq0, nz_pos, nz_le0, nz_eq1, nz_lt1, nz_ge1, nz_le1, nz_gt1, nz_vp, nz_vp0, nz_vp1, six_nI, vix_nI, bix_nI, pix_nI, fix_nI, gix_nI, rix_nI, zix_nI, pix_0, pix_1, bix_0, fix_0, fix_1, rix_1, true_and, and_true]
    rw [e4, h5, et]
    simp (disch := omega) only [li_2, li_3, li_4, li_5, li_6, li_7, li_8, li_9, li_10, li_12, li_14, li_20, li_26, li_30, li_31, li_36, li_38, li_47, li_48, li_50, li_57, li_58, li_80, li_98, li_99, li_100, li_102, li_104, li_105, li_108, li_109, li_110, li_114, li_115, li_119, li_122, li_137, li_146, li_147, li_148, li_149, li_150, li_200, li_255, li_256, li_274, li_510, li_512, li_640, li_999, li_1000, li_1024, li_3334, li_5000, li_9999, li_10000, li_23338, li_26672, li_30000, li_99999, li_150000, li_300000, pk_mul, nI_add, pk_sub, nI_clamp, nI_1, nI_p1, nI_a0, nI_0a, nI_m0, nI_m1, cl_0, cl_1, z01, z11, nI_leI, nI_ltI, nI_eq, nz_lt0, nz_le, nz_eq0, nz_pos, nz_le0, nz_eq1, nz_lt1, nz_ge1, nz_le1, nz_gt1, nz_vp, nz_vp0, nz_vp1, six_nI, vix_nI, bix_nI, pix_nI, fix_nI, gix_nI, rix_nI, zix_nI, pix_0, pix_1, bix_0, fix_0, fix_1, rix_1, true_and, and_true]
    have step : ∀ (y : Int32) (q30 : Nat → Nat → Int32), y = (if j < n then u (t + j) else 0) → q30 = va_up q 0 (upd (q 0) (274 + 510 * v + 150 + 36 * a + 6 + j) y) → wp_X11_sets_163 P f (nI s) (nI (274 + 510 * v + 150 + 36 * a)) (nI (j + 1)) r q30 := by
      intro y q30 ey e30
      have k5 : kQ q q30 [0] := by rw [e30]; exact kQ.rf.up (by decide) _
      refine ih (j + 1) f q30 ((k5 5 (by decide)).trans h5) ((k5 6 (by decide)).trans h6) (by omega) (by omega) ?_ (fun q1 h1 h2 => hK q1 (k5.tr h1 (fun _ h => h) (fun _ h => h)) h2)
      rw [e30, va_up_self, hq]
      funext k
      by_cases e : k = 274 + 510 * v + 150 + 36 * a + 6 + j
      · subst e
        rw [pk_us, if_pos (by omega), ey, show 274 + 510 * v + 150 + 36 * a + 6 + j - (274 + 510 * v + 150 + 36 * a + 6) = j by omega]
      · rw [pk_un e]
        by_cases c : 274 + 510 * v + 150 + 36 * a + 6 ≤ k ∧ k < 274 + 510 * v + 150 + 36 * a + 6 + j
        · rw [if_pos c, if_pos (show 274 + 510 * v + 150 + 36 * a + 6 ≤ k ∧ k < 274 + 510 * v + 150 + 36 * a + 6 + (j + 1) by omega)]
        · rw [if_neg c, if_neg (show ¬ (274 + 510 * v + 150 + 36 * a + 6 ≤ k ∧ k < 274 + 510 * v + 150 + 36 * a + 6 + (j + 1)) by omega)]
    refine ⟨fun c => absurd c (by omega), fun _ => ⟨by omega, fun c => ⟨by omega, fun q30 e30 v31 e31 => ?_⟩, fun c => ⟨by omega, by omega, by omega, fun q35 e35 v36 e36 => ?_⟩⟩⟩
    · subst e31
      exact step 0 q30 (by rw [if_neg (by omega)]) e30
    · subst e36
      exact step _ q35 (by rw [if_pos (by omega), h6]) e35
theorem k_X11_sets (l : Launch) (D : va_G) (T : Nat → ClassId) (m0 : Nat) (a : Nat → Nat) (p0 : Int32) (p1 : Int32) (r : Nat → Int32) (q : Nat → Nat → Int32) (h : vix p0 ∧ s8 p1 ∧ six (q 5 (iv p1 + 1)) ∧ seO (q 5) (iv p1)) : RMi l yX11_sets (ws_X11_sets) rm_X11_sets D T m0 a [.ref m0, .int p0, .int p1] r q (fun v u => (v = b2i (seB (q 5 (iv p1 + 2)) (q 5 (iv p1 + 3))) ∧ u.1 = r ∧ kQ q u.2 [0] ∧ (seB (q 5 (iv p1 + 2)) (q 5 (iv p1 + 3)) = true → u.2 0 = seW (q 0) (q 5) (q 6) (iv p0) (iv p1)))) := c_X11_sets l D T m0 a p0 p1 r q _ <|
  (by
    obtain ⟨⟨v, hv, e0⟩, ⟨s, hs, e1⟩, ⟨a, ha, ea⟩, ⟨t, n, htn, e4, e6⟩⟩ := h
    subst e0 e1
    have ev : iv (nI v) = v := nI_clamp (by omega)
    have es : iv (nI s) = s := nI_clamp (by omega)
    rw [es] at ea e4 e6
    rw [ev, es]
    have main : ∀ most : Int32, most = (if q 5 (s + 3) = 1 then (99 : Int32) else if q 5 (s + 3) = 2 then 50 else 9999) → wp_X11_sets_32 (fun v1 u => v1 = b2i (seB (q 5 (s + 2)) (q 5 (s + 3))) ∧ u.1 = r ∧ kQ q u.2 [0] ∧ (seB (q 5 (s + 2)) (q 5 (s + 3)) = true → u.2 0 = seW (q 0) (q 5) (q 6) v s)) (nI v) (nI s) (q 5 (s + 3)) most r q := by
      intro most hmost
      unfold wp_X11_sets_32
      simp (disch := omega) only [li_2, li_3, li_4, li_5, li_6, li_7, li_8, li_9, li_10, li_12, li_14, li_20, li_26, li_30, li_31, li_36, li_38, li_47, li_48, li_50, li_57, li_58, li_80, li_98, li_99, li_100, li_102, li_104, li_105, li_108, li_109, li_110, li_114, li_115, li_119, li_122, li_137, li_146, li_147, li_148, li_149, li_150, li_200, li_255, li_256, li_274, li_510, li_512, li_640, li_999, li_1000, li_1024, li_3334, li_5000, li_9999, li_10000, li_23338, li_26672, li_30000, li_99999, li_150000, li_300000, pk_mul, nI_add, pk_sub, nI_clamp, nI_1, nI_p1, nI_a0, nI_0a, nI_m0, nI_m1, cl_0, cl_1, z01, z11, nI_leI, nI_ltI, nI_eq, nz_lt0, nz_le, nz_eq0, nz_pos, nz_le0, nz_eq1, nz_lt1, nz_ge1, nz_le1, nz_gt1, nz_vp, nz_vp0, nz_vp1, six_nI, vix_nI, bix_nI, pix_nI, fix_nI, gix_nI, rix_nI, zix_nI, pix_0, pix_1, bix_0, fix_0, fix_1, rix_1, true_and, and_true]
      refine ⟨by omega, fun c => ?_, fun c => ⟨?_, kQ.rf, fun z => ?_⟩⟩
      · rw [ea]
        refine ⟨by omega, fun v8 e8 => ?_⟩
        have e8' : v8 = nI (274 + 510 * v + 150 + 36 * a) := by rw [e8]; simp (disch := omega) only [li_2, li_3, li_4, li_5, li_6, li_7, li_8, li_9, li_10, li_12, li_14, li_20, li_26, li_30, li_31, li_36, li_38, li_47, li_48, li_50, li_57, li_58, li_80, li_98, li_99, li_100, li_102, li_104, li_105, li_108, li_109, li_110, li_114, li_115, li_119, li_122, li_137, li_146, li_147, li_148, li_149, li_150, li_200, li_255, li_256, li_274, li_510, li_512, li_640, li_999, li_1000, li_1024, li_3334, li_5000, li_9999, li_10000, li_23338, li_26672, li_30000, li_99999, li_150000, li_300000, pk_mul, nI_add, pk_sub, nI_clamp, nI_1, nI_p1, nI_a0, nI_0a, nI_m0, nI_m1, cl_0, cl_1, z01, z11]
        clear e8
        subst e8'
        simp (disch := omega) only [li_2, li_3, li_4, li_5, li_6, li_7, li_8, li_9, li_10, li_12, li_14, li_20, li_26, li_30, li_31, li_36, li_38, li_47, li_48, li_50, li_57, li_58, li_80, li_98, li_99, li_100, li_102, li_104, li_105, li_108, li_109, li_110, li_114, li_115, li_119, li_122, li_137, li_146, li_147, li_148, li_149, li_150, li_200, li_255, li_256, li_274, li_510, li_512, li_640, li_999, li_1000, li_1024, li_3334, li_5000, li_9999, li_10000, li_23338, li_26672, li_30000, li_99999, li_150000, li_300000, pk_mul, nI_add, pk_sub, nI_clamp, nI_1, nI_p1, nI_a0, nI_0a, nI_m0, nI_m1, cl_0, cl_1, z01, z11, nI_leI, nI_ltI, nI_eq, nz_lt0, nz_le, nz_eq0, nz_pos, nz_le0, nz_eq1, nz_lt1, nz_ge1, nz_le1, nz_gt1, nz_vp, nz_vp0, nz_vp1, six_nI, vix_nI, bix_nI, pix_nI, fix_nI, gix_nI, rix_nI, zix_nI, pix_0, pix_1, bix_0, fix_0, fix_1, rix_1, true_and, and_true]
        refine ⟨by omega, fun q10 e10 => ⟨by omega, by omega, fun q13 e13 => ⟨by omega, fun q15 e15 => ⟨by omega, by omega, fun q18 e18 => ⟨by omega, by omega, by omega, fun q22 e22 => ⟨by omega, by omega, fun q25 e25 => ⟨100, ?_⟩⟩⟩⟩⟩⟩⟩
        have h10 : q10 5 = q 5 := by rw [e10, va_up_ne _ _ (by decide)]
        have h13 : q13 5 = q 5 := by rw [e13, va_up_ne _ _ (by decide)]; exact h10
        have h15 : q15 5 = q 5 := by rw [e15, va_up_ne _ _ (by decide)]; exact h13
        have h18 : q18 5 = q 5 := by rw [e18, va_up_ne _ _ (by decide)]; exact h15
        have h22 : q22 5 = q 5 := by rw [e22, va_up_ne _ _ (by decide)]; exact h18
        have h25 : q25 5 = q 5 := by rw [e25, va_up_ne _ _ (by decide)]; exact h22
        have k25 : kQ q q25 [0] := by
          rw [e25, e22, e18, e15, e13, e10]
          exact (((((kQ.rf.up (by decide) _).up (by decide) _).up (by decide) _).up (by decide) _).up (by decide) _).up (by decide) _
        have hB : seB (q 5 (s + 2)) (q 5 (s + 3)) = true := by
          unfold seB
          rw [← hmost, decide_eq_false (Int32.not_lt.mpr c)]; rfl
        have esub : q 5 (s + 6) - q 5 (s + 4) = nI n := by rw [e4, e6, pk_sub (by omega)]; congr 1; omega
        refine rl_se (μ := q 0) (w := q 5) (u := q 6) (t := t) (n := n) (x2 := q 5 (s + 2)) (x3 := q 5 (s + 3)) (rows := q 5 (s + 5)) (excl := q 5 (s + 7)) hv ha hs htn e4 30 0 100 q25 h25 (k25 6 (by decide)) (by omega) (by omega) ?_ (fun q1 g1 g2 => ⟨by rw [hB]; rfl, rfl, k25.tr g1 (fun _ h => h) (fun _ h => h), fun _ => ?_⟩)
        · rw [h22] at e25
          rw [h18] at e22
          rw [h15] at e18
          rw [h10] at e13
          rw [e25, va_up_self, e22, va_up_self, e18, va_up_self, e15, va_up_self, e13, va_up_self, e10, va_up_self, esub]
          funext k
          rw [if_neg (by omega)]
        · dsimp only
          rw [g2]
          unfold seW
          rw [ea, esub, e4, show iv (nI a) = a from nI_clamp (by omega), show iv (nI t) = t from nI_clamp (by omega)]
      · unfold seB
        rw [← hmost, decide_eq_true (Int32.not_le.mp c)]; rfl
      · unfold seB at z
        rw [← hmost, decide_eq_true (Int32.not_le.mp c)] at z
        cases z
    unfold wp_X11_sets
    rw [show vp_in (nI s + 3) 640 = (s + 3 < 640) by simp (disch := omega) only [li_2, li_3, li_4, li_5, li_6, li_7, li_8, li_9, li_10, li_12, li_14, li_20, li_26, li_30, li_31, li_36, li_38, li_47, li_48, li_50, li_57, li_58, li_80, li_98, li_99, li_100, li_102, li_104, li_105, li_108, li_109, li_110, li_114, li_115, li_119, li_122, li_137, li_146, li_147, li_148, li_149, li_150, li_200, li_255, li_256, li_274, li_510, li_512, li_640, li_999, li_1000, li_1024, li_3334, li_5000, li_9999, li_10000, li_23338, li_26672, li_30000, li_99999, li_150000, li_300000, pk_mul, nI_add, pk_sub, nI_clamp, nI_1, nI_p1, nI_a0, nI_0a, nI_m0, nI_m1, cl_0, cl_1, z01, z11, nI_leI, nI_ltI, nI_eq, nz_lt0, nz_le, nz_eq0, nz_pos, nz_le0, nz_eq1, nz_lt1, nz_ge1, nz_le1, nz_gt1, nz_vp, nz_vp0, nz_vp1, six_nI, vix_nI, bix_nI, pix_nI, fix_nI, gix_nI, rix_nI, zix_nI, pix_0, pix_1, bix_0, fix_0, fix_1, rix_1, true_and, and_true], show Int32.toNatClampNeg (nI s + 3) = s + 3 by simp (disch := omega) only [li_2, li_3, li_4, li_5, li_6, li_7, li_8, li_9, li_10, li_12, li_14, li_20, li_26, li_30, li_31, li_36, li_38, li_47, li_48, li_50, li_57, li_58, li_80, li_98, li_99, li_100, li_102, li_104, li_105, li_108, li_109, li_110, li_114, li_115, li_119, li_122, li_137, li_146, li_147, li_148, li_149, li_150, li_200, li_255, li_256, li_274, li_510, li_512, li_640, li_999, li_1000, li_1024, li_3334, li_5000, li_9999, li_10000, li_23338, li_26672, li_30000, li_99999, li_150000, li_300000, pk_mul, nI_add, pk_sub, nI_clamp, nI_1, nI_p1, nI_a0, nI_0a, nI_m0, nI_m1, cl_0, cl_1, z01, z11, nI_leI, nI_ltI, nI_eq, nz_lt0, nz_le, nz_eq0, nz_pos, nz_le0, nz_eq1, nz_lt1, nz_ge1, nz_le1, nz_gt1, nz_vp, nz_vp0, nz_vp1, six_nI, vix_nI, bix_nI, pix_nI, fix_nI, gix_nI, rix_nI, zix_nI, pix_0, pix_1, bix_0, fix_0, fix_1, rix_1, true_and, and_true]]
    refine ⟨by omega, fun v2 e2 => ?_⟩
    subst e2
    refine ⟨fun c1 => ⟨fun c2 => main _ (by rw [if_neg c1, if_neg c2]), fun c2 => main _ (by rw [if_neg c1, if_pos c2])⟩, fun c1 => main _ (by rw [if_pos c1])⟩)

end S_RLS
