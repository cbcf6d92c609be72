section S_RDS
abbrev ws_X11_setRebate : List Cond := Cond.code yX11_setRebate cX11_setRebate 5 (some .int) :: W0
abbrev rm_X11_setRebate : Room := ({ frames := 1, cells := 0, slots := 0, locals := 22 } : Room)
def wb_X11_setRebate_7 (rec : Int32 → Int32 → Int32 → (Nat → Int32) → (Nat → Nat → Int32) → Prop) (K37 : Int32 → Int32 → Int32 → (Nat → Int32) → (Nat → Nat → Int32) → Prop) (P : Int32 → RST → Prop) (x1 : Int32) (x2 : Int32) (x3 : Int32) (r : Nat → Int32) (q : Nat → Nat → Int32) : Prop := vp_in 2 3334 ∧ (((q 0 (Int32.toNatClampNeg 2)) ≤ x3 → (K37 x1 x2 x3 r q)) ∧ (¬ (q 0 (Int32.toNatClampNeg 2)) ≤ x3 → (vp_in (4 + (2 * x3)) 3334 ∧ (((q 0 (Int32.toNatClampNeg (4 + (2 * x3)))) = x1 → (K37 x1 x2 x3 r q)) ∧ (¬ (q 0 (Int32.toNatClampNeg (4 + (2 * x3)))) = x1 → (∀ v6 : Int32, v6 = x3 + 1 → (rec x1 x2 v6 r q)))))))
def wp_X11_setRebate_7 (K37 : Int32 → Int32 → Int32 → (Nat → Int32) → (Nat → Nat → Int32) → Prop) (P : Int32 → RST → Prop) : Nat → Int32 → Int32 → Int32 → (Nat → Int32) → (Nat → Nat → Int32) → Prop
  | 0 => fun _ _ _ _ _ => False
  | n + 1 => fun x1 x2 x3 r q => wb_X11_setRebate_7 (wp_X11_setRebate_7 K37 P n) K37 P x1 x2 x3 r q
set_option maxRecDepth 100000 in
set_option maxHeartbeats 4000000 in
theorem t_X11_setRebate_7 {p : Program} {l : Launch} {e : Env} {s : State} {m : MethodId} {args : Array Value} {below : List Frame} {meth : Method} {c : Code} {D : va_G} {A : Nat → Prop} {T : Nat → ClassId} {m0 : Nat} {a : Nat → Nat} (C : GC p s m args meth c cX11_setRebate "FreightRaterModel" (ws_X11_setRebate) 5 D A (zty T)) (hr : meth.sig.returnType = (some .int)) (K37 : Int32 → Int32 → Int32 → (Nat → Int32) → (Nat → Nat → Int32) → Prop) (P : Int32 → RST → Prop) (hK37 : ∀ (x1 : Int32) (x2 : Int32) (x3 : Int32) (r : Nat → Int32) (q : Nat → Nat → Int32), K37 x1 x2 x3 r q → GW p l e rm_X11_setRebate s m args below meth c D A 5 0 0 (MQ below (va_Qi P (RE D T m0 a A) A) args s 0 0 A) (RW m0 a T r q) 0 0 37 [(0, .ref m0), (1, .int x1), (2, .int x2), (3, .int x3)] []) : ∀ (n : Nat) (x1 : Int32) (x2 : Int32) (x3 : Int32) (r : Nat → Int32) (q : Nat → Nat → Int32), wp_X11_setRebate_7 K37 P n x1 x2 x3 r q → GW p l e rm_X11_setRebate s m args below meth c D A 5 0 0 (MQ below (va_Qi P (RE D T m0 a A) A) args s 0 0 A) (RW m0 a T r q) 0 0 7 [(0, .ref m0), (1, .int x1), (2, .int x2), (3, .int x3)] [] := by
  have hw : ∀ {w : Cond}, w ∈ W0 → w.before args s = true := fun h => C.2.2.2.2.1 _ (List.mem_cons_of_mem _ h)
  intro n
  induction n with
  | zero => intro x1 x2 x3 r q h; exact h.elim
  | succ n ih =>
    intro x1 x2 x3 r q h
    replace h : wb_X11_setRebate_7 (wp_X11_setRebate_7 K37 P n) K37 P x1 x2 x3 r q := h
    unfold wb_X11_setRebate_7 at h
    refine g_iload_n C dX11_setRebate_7 rfl 3 rfl ?_
    refine g_aload_n C dX11_setRebate_8 rfl 0 rfl ?_
    refine gr_get C iwx_X11 0 (hw kw_1809) (by decide) rfl rfl dX11_setRebate_9 ?_
    refine g_iconst (v := 2) C dX11_setRebate_12 (by decide) ?_
    obtain ⟨g2, h⟩ := h
    refine gr_ald_0 C g2 dX11_setRebate_13 ?_
    refine g_icmp_ge (tgt := 37) C dX11_setRebate_14 (by decide) (fun z3 => ?_) (fun z3 => ?_)
    · replace h := h.1 z3
      refine g_locals [0, 1, 2, 3] rfl ?_
      exact hK37 x1 x2 x3 r q h
    · replace h := h.2 z3
      refine g_aload_n C dX11_setRebate_17 rfl 0 rfl ?_
      refine gr_get C iwx_X11 0 (hw kw_1809) (by decide) rfl rfl dX11_setRebate_18 ?_
      refine g_iconst (v := 4) C dX11_setRebate_21 (by decide) ?_
      refine g_iconst (v := 2) C dX11_setRebate_22 (by decide) ?_
      refine g_iload_n C dX11_setRebate_23 rfl 3 rfl ?_
      refine g_imul C dX11_setRebate_24 ?_
      refine g_iadd C dX11_setRebate_25 ?_
      obtain ⟨g4, h⟩ := h
      refine gr_ald_0 C g4 dX11_setRebate_26 ?_
      refine g_iload_n C dX11_setRebate_27 rfl 1 rfl ?_
      refine g_icmp_eq (tgt := 37) C dX11_setRebate_28 (by decide) (fun z5 => ?_) (fun z5 => ?_)
      · replace h := h.1 z5
        refine g_locals [0, 1, 2, 3] rfl ?_
        exact hK37 x1 x2 x3 r q h
      · replace h := h.2 z5
        obtain ⟨v6, ev6⟩ : ∃ y : Int32, y = x3 + 1 := ⟨_, rfl⟩
        replace h := h v6 ev6
        refine g_iinc (v := v6) (lv' := [(3, .int v6), (0, .ref m0), (1, .int x1), (2, .int x2)]) C dX11_setRebate_31 (j := 3) rfl (by rw [ev6]; rfl) (by decide) rfl ?_
        refine g_goto (tgt := 7) C dX11_setRebate_34 (by decide) ?_
        refine g_locals [1, 2, 3, 0] rfl ?_
        exact ih x1 x2 v6 r q h
def wp_X11_setRebate_110 (P : Int32 → RST → Prop) (x1 : Int32) (x2 : Int32) (x3 : Int32) (x4 : Int32) (r : Nat → Int32) (q : Nat → Nat → Int32) : Prop := (CW8 r) ∧ (∀ (r22 : Nat → Int32) (q23 : Nat → Nat → Int32), (kR r r22 [5] ∧ kQ q q23 [3] ∧ psh (q 3) (q23 3) (q 0) (r 5) (r22 5)) → ((¬ x2 = 0 → (vp_in 2 3334 ∧ ((x4 = 0 → (vp_in 2 3334 ∧ (∀ q29 : Nat → Nat → Int32, q29 = va_up q23 0 (upd (q23 0) (Int32.toNatClampNeg 2) ((q23 0 (Int32.toNatClampNeg 2)) + 1)) → (vp_in (4 + (2 * x3)) 3334 ∧ (∀ q31 : Nat → Nat → Int32, q31 = va_up q29 0 (upd (q29 0) (Int32.toNatClampNeg (4 + (2 * x3))) x1) → (vp_in ((4 + (2 * x3)) + 1) 3334 ∧ (∀ q33 : Nat → Nat → Int32, q33 = va_up q31 0 (upd (q31 0) (Int32.toNatClampNeg ((4 + (2 * x3)) + 1)) x2) → (vp_in 2 3334 ∧ (P (q33 0 (Int32.toNatClampNeg 2)) (r22, q33)))))))))) ∧ (¬ x4 = 0 → (vp_in 2 3334 ∧ (∀ q36 : Nat → Nat → Int32, q36 = va_up q23 0 (upd (q23 0) (Int32.toNatClampNeg 2) ((q23 0 (Int32.toNatClampNeg 2)) + 0)) → (vp_in (4 + (2 * x3)) 3334 ∧ (∀ q38 : Nat → Nat → Int32, q38 = va_up q36 0 (upd (q36 0) (Int32.toNatClampNeg (4 + (2 * x3))) x1) → (vp_in ((4 + (2 * x3)) + 1) 3334 ∧ (∀ q40 : Nat → Nat → Int32, q40 = va_up q38 0 (upd (q38 0) (Int32.toNatClampNeg ((4 + (2 * x3)) + 1)) x2) → (vp_in 2 3334 ∧ (P (q40 0 (Int32.toNatClampNeg 2)) (r22, q40))))))))))))) ∧ (x2 = 0 → (vp_in 2 3334 ∧ (vp_in 2 3334 ∧ (∀ q44 : Nat → Nat → Int32, q44 = va_up q23 0 (upd (q23 0) (Int32.toNatClampNeg 2) ((q23 0 (Int32.toNatClampNeg 2)) - 1)) → (vp_in 2 3334 ∧ (vp_in (4 + (2 * (q44 0 (Int32.toNatClampNeg 2)))) 3334 ∧ (vp_in (4 + (2 * x3)) 3334 ∧ (∀ q48 : Nat → Nat → Int32, q48 = va_up q44 0 (upd (q44 0) (Int32.toNatClampNeg (4 + (2 * x3))) (q44 0 (Int32.toNatClampNeg (4 + (2 * (q44 0 (Int32.toNatClampNeg 2))))))) → (vp_in 2 3334 ∧ (vp_in ((4 + (2 * (q48 0 (Int32.toNatClampNeg 2)))) + 1) 3334 ∧ (vp_in ((4 + (2 * x3)) + 1) 3334 ∧ (∀ q52 : Nat → Nat → Int32, q52 = va_up q48 0 (upd (q48 0) (Int32.toNatClampNeg ((4 + (2 * x3)) + 1)) (q48 0 (Int32.toNatClampNeg ((4 + (2 * (q48 0 (Int32.toNatClampNeg 2)))) + 1)))) → (vp_in 2 3334 ∧ (P (q52 0 (Int32.toNatClampNeg 2)) (r22, q52)))))))))))))))))
set_option maxRecDepth 100000 in
set_option maxHeartbeats 4000000 in
theorem t_X11_setRebate_110 {p : Program} {l : Launch} {e : Env} {s : State} {m : MethodId} {args : Array Value} {below : List Frame} {meth : Method} {c : Code} {D : va_G} {A : Nat → Prop} {T : Nat → ClassId} {m0 : Nat} {a : Nat → Nat} (C : GC p s m args meth c cX11_setRebate "FreightRaterModel" (ws_X11_setRebate) 5 D A (zty T)) (hr : meth.sig.returnType = (some .int)) (P : Int32 → RST → Prop) : ∀ (x1 : Int32) (x2 : Int32) (x3 : Int32) (x4 : Int32) (r : Nat → Int32) (q : Nat → Nat → Int32), wp_X11_setRebate_110  P x1 x2 x3 x4 r q → GW p l e rm_X11_setRebate s m args below meth c D A 5 0 0 (MQ below (va_Qi P (RE D T m0 a A) A) args s 0 0 A) (RW m0 a T r q) 0 0 110 [(0, .ref m0), (1, .int x1), (2, .int x2), (3, .int x3), (4, .int x4)] [] := by
  have hw : ∀ {w : Cond}, w ∈ W0 → w.before args s = true := fun h => C.2.2.2.2.1 _ (List.mem_cons_of_mem _ h)
  intro x1 x2 x3 x4 r q h
  unfold wp_X11_setRebate_110 at h
  refine g_aload_n C dX11_setRebate_110 rfl 0 rfl ?_
  refine g_aload_n C dX11_setRebate_111 rfl 0 rfl ?_
  refine gr_get C iwx_X11 0 (hw kw_1809) (by decide) rfl rfl dX11_setRebate_112 ?_
  obtain ⟨g24, h⟩ := h
  refine gr_callvV C [.ref (a 0)] rfl (k_X11_keepAs_0 l D T m0 a  r q g24) (w0_V 1 C.2.2.2.2.1 kw_1958 kw_1960 ks_52 kw_9 kw_1961 rfl rfl (by decide +kernel) ⟨by decide, by decide⟩) rfl (Nat.le_of_ble_eq_true rfl) (Nat.zero_le _) (Nat.zero_le _) dX11_setRebate_115 (fun r22 q23 hp => ?_)
  replace h := h r22 q23 hp
  refine g_iload_n C dX11_setRebate_118 rfl 2 rfl ?_
  refine g_if_ne (tgt := 189) C dX11_setRebate_119 (by decide) (fun z25 => ?_) (fun z25 => ?_)
  · replace h := h.1 z25
    refine g_aload_n C dX11_setRebate_189 rfl 0 rfl ?_
    refine gr_get C iwx_X11 0 (hw kw_1809) (by decide) rfl rfl dX11_setRebate_190 ?_
    refine g_iconst (v := 2) C dX11_setRebate_193 (by decide) ?_
    refine g_dup2 C dX11_setRebate_194 rfl rfl ?_
    obtain ⟨g26, h⟩ := h
    refine gr_ald_0 C g26 dX11_setRebate_195 ?_
    refine g_iload C dX11_setRebate_196 4 rfl ?_
    refine g_if_eq (tgt := 205) C dX11_setRebate_198 (by decide) (fun z27 => ?_) (fun z27 => ?_)
    · replace h := h.1 z27
      refine g_iconst (v := 1) C dX11_setRebate_205 (by decide) ?_
      refine g_iadd C dX11_setRebate_206 ?_
      obtain ⟨g28, h⟩ := h
      refine gr_ast_0 C g28 dX11_setRebate_207 ?_
      refine gr_nq (fun q29 eq29 => ?_)
      replace h := h q29 eq29
      refine g_aload_n C dX11_setRebate_208 rfl 0 rfl ?_
      refine gr_get C iwx_X11 0 (hw kw_1809) (by decide) rfl rfl dX11_setRebate_209 ?_
      refine g_iconst (v := 4) C dX11_setRebate_212 (by decide) ?_
      refine g_iconst (v := 2) C dX11_setRebate_213 (by decide) ?_
      refine g_iload_n C dX11_setRebate_214 rfl 3 rfl ?_
      refine g_imul C dX11_setRebate_215 ?_
      refine g_iadd C dX11_setRebate_216 ?_
      refine g_iload_n C dX11_setRebate_217 rfl 1 rfl ?_
      obtain ⟨g30, h⟩ := h
      refine gr_ast_0 C g30 dX11_setRebate_218 ?_
      refine gr_nq (fun q31 eq31 => ?_)
      replace h := h q31 eq31
      refine g_aload_n C dX11_setRebate_219 rfl 0 rfl ?_
      refine gr_get C iwx_X11 0 (hw kw_1809) (by decide) rfl rfl dX11_setRebate_220 ?_
      refine g_iconst (v := 4) C dX11_setRebate_223 (by decide) ?_
      refine g_iconst (v := 2) C dX11_setRebate_224 (by decide) ?_
      refine g_iload_n C dX11_setRebate_225 rfl 3 rfl ?_
      refine g_imul C dX11_setRebate_226 ?_
      refine g_iadd C dX11_setRebate_227 ?_
      refine g_iconst (v := 1) C dX11_setRebate_228 (by decide) ?_
      refine g_iadd C dX11_setRebate_229 ?_
      refine g_iload_n C dX11_setRebate_230 rfl 2 rfl ?_
      obtain ⟨g32, h⟩ := h
      refine gr_ast_0 C g32 dX11_setRebate_231 ?_
      refine gr_nq (fun q33 eq33 => ?_)
      replace h := h q33 eq33
      refine g_aload_n C dX11_setRebate_232 rfl 0 rfl ?_
      refine gr_get C iwx_X11 0 (hw kw_1809) (by decide) rfl rfl dX11_setRebate_233 ?_
      refine g_iconst (v := 2) C dX11_setRebate_236 (by decide) ?_
      obtain ⟨g34, h⟩ := h
      refine gr_ald_0 C g34 dX11_setRebate_237 ?_
      exact gr_iret C hr dX11_setRebate_238 h
    · replace h := h.2 z27
      refine g_iconst (v := 0) C dX11_setRebate_201 (by decide) ?_
      refine g_goto (tgt := 206) C dX11_setRebate_202 (by decide) ?_
      refine g_iadd C dX11_setRebate_206 ?_
      obtain ⟨g35, h⟩ := h
      refine gr_ast_0 C g35 dX11_setRebate_207 ?_
      refine gr_nq (fun q36 eq36 => ?_)
      replace h := h q36 eq36
      refine g_aload_n C dX11_setRebate_208 rfl 0 rfl ?_
      refine gr_get C iwx_X11 0 (hw kw_1809) (by decide) rfl rfl dX11_setRebate_209 ?_
      refine g_iconst (v := 4) C dX11_setRebate_212 (by decide) ?_
      refine g_iconst (v := 2) C dX11_setRebate_213 (by decide) ?_
      refine g_iload_n C dX11_setRebate_214 rfl 3 rfl ?_
      refine g_imul C dX11_setRebate_215 ?_
      refine g_iadd C dX11_setRebate_216 ?_
      refine g_iload_n C dX11_setRebate_217 rfl 1 rfl ?_
      obtain ⟨g37, h⟩ := h
      refine gr_ast_0 C g37 dX11_setRebate_218 ?_
      refine gr_nq (fun q38 eq38 => ?_)
      replace h := h q38 eq38
      refine g_aload_n C dX11_setRebate_219 rfl 0 rfl ?_
      refine gr_get C iwx_X11 0 (hw kw_1809) (by decide) rfl rfl dX11_setRebate_220 ?_
      refine g_iconst (v := 4) C dX11_setRebate_223 (by decide) ?_
      refine g_iconst (v := 2) C dX11_setRebate_224 (by decide) ?_
      refine g_iload_n C dX11_setRebate_225 rfl 3 rfl ?_
      refine g_imul C dX11_setRebate_226 ?_
      refine g_iadd C dX11_setRebate_227 ?_
      refine g_iconst (v := 1) C dX11_setRebate_228 (by decide) ?_
      refine g_iadd C dX11_setRebate_229 ?_
      refine g_iload_n C dX11_setRebate_230 rfl 2 rfl ?_
      obtain ⟨g39, h⟩ := h
      refine gr_ast_0 C g39 dX11_setRebate_231 ?_
      refine gr_nq (fun q40 eq40 => ?_)
      replace h := h q40 eq40
      refine g_aload_n C dX11_setRebate_232 rfl 0 rfl ?_
      refine gr_get C iwx_X11 0 (hw kw_1809) (by decide) rfl rfl dX11_setRebate_233 ?_
      refine g_iconst (v := 2) C dX11_setRebate_236 (by decide) ?_
      obtain ⟨g41, h⟩ := h
      refine gr_ald_0 C g41 dX11_setRebate_237 ?_
      exact gr_iret C hr dX11_setRebate_238 h
  · replace h := h.2 z25
    refine g_aload_n C dX11_setRebate_122 rfl 0 rfl ?_
    refine gr_get C iwx_X11 0 (hw kw_1809) (by decide) rfl rfl dX11_setRebate_123 ?_
    refine g_iconst (v := 2) C dX11_setRebate_126 (by decide) ?_
    refine g_dup2 C dX11_setRebate_127 rfl rfl ?_
    obtain ⟨g42, h⟩ := h
    refine gr_ald_0 C g42 dX11_setRebate_128 ?_
    refine g_iconst (v := 1) C dX11_setRebate_129 (by decide) ?_
    refine g_isub C dX11_setRebate_130 ?_
    obtain ⟨g43, h⟩ := h
    refine gr_ast_0 C g43 dX11_setRebate_131 ?_
    refine gr_nq (fun q44 eq44 => ?_)
    replace h := h q44 eq44
    refine g_aload_n C dX11_setRebate_132 rfl 0 rfl ?_
    refine gr_get C iwx_X11 0 (hw kw_1809) (by decide) rfl rfl dX11_setRebate_133 ?_
    refine g_iconst (v := 4) C dX11_setRebate_136 (by decide) ?_
    refine g_iconst (v := 2) C dX11_setRebate_137 (by decide) ?_
    refine g_iload_n C dX11_setRebate_138 rfl 3 rfl ?_
    refine g_imul C dX11_setRebate_139 ?_
    refine g_iadd C dX11_setRebate_140 ?_
    refine g_aload_n C dX11_setRebate_141 rfl 0 rfl ?_
    refine gr_get C iwx_X11 0 (hw kw_1809) (by decide) rfl rfl dX11_setRebate_142 ?_
    refine g_iconst (v := 4) C dX11_setRebate_145 (by decide) ?_
    refine g_iconst (v := 2) C dX11_setRebate_146 (by decide) ?_
    refine g_aload_n C dX11_setRebate_147 rfl 0 rfl ?_
    refine gr_get C iwx_X11 0 (hw kw_1809) (by decide) rfl rfl dX11_setRebate_148 ?_
    refine g_iconst (v := 2) C dX11_setRebate_151 (by decide) ?_
    obtain ⟨g45, h⟩ := h
    refine gr_ald_0 C g45 dX11_setRebate_152 ?_
    refine g_imul C dX11_setRebate_153 ?_
    refine g_iadd C dX11_setRebate_154 ?_
    obtain ⟨g46, h⟩ := h
    refine gr_ald_0 C g46 dX11_setRebate_155 ?_
    obtain ⟨g47, h⟩ := h
    refine gr_ast_0 C g47 dX11_setRebate_156 ?_
    refine gr_nq (fun q48 eq48 => ?_)
    replace h := h q48 eq48
    refine g_aload_n C dX11_setRebate_157 rfl 0 rfl ?_
    refine gr_get C iwx_X11 0 (hw kw_1809) (by decide) rfl rfl dX11_setRebate_158 ?_
    refine g_iconst (v := 4) C dX11_setRebate_161 (by decide) ?_
    refine g_iconst (v := 2) C dX11_setRebate_162 (by decide) ?_
    refine g_iload_n C dX11_setRebate_163 rfl 3 rfl ?_
    refine g_imul C dX11_setRebate_164 ?_
    refine g_iadd C dX11_setRebate_165 ?_
    refine g_iconst (v := 1) C dX11_setRebate_166 (by decide) ?_
    refine g_iadd C dX11_setRebate_167 ?_
    refine g_aload_n C dX11_setRebate_168 rfl 0 rfl ?_
    refine gr_get C iwx_X11 0 (hw kw_1809) (by decide) rfl rfl dX11_setRebate_169 ?_
    refine g_iconst (v := 4) C dX11_setRebate_172 (by decide) ?_
    refine g_iconst (v := 2) C dX11_setRebate_173 (by decide) ?_
    refine g_aload_n C dX11_setRebate_174 rfl 0 rfl ?_
    refine gr_get C iwx_X11 0 (hw kw_1809) (by decide) rfl rfl dX11_setRebate_175 ?_
    refine g_iconst (v := 2) C dX11_setRebate_178 (by decide) ?_
    obtain ⟨g49, h⟩ := h
    refine gr_ald_0 C g49 dX11_setRebate_179 ?_
    refine g_imul C dX11_setRebate_180 ?_
    refine g_iadd C dX11_setRebate_181 ?_
    refine g_iconst (v := 1) C dX11_setRebate_182 (by decide) ?_
    refine g_iadd C dX11_setRebate_183 ?_
    obtain ⟨g50, h⟩ := h
    refine gr_ald_0 C g50 dX11_setRebate_184 ?_
    obtain ⟨g51, h⟩ := h
    refine gr_ast_0 C g51 dX11_setRebate_185 ?_
    refine gr_nq (fun q52 eq52 => ?_)
    replace h := h q52 eq52
    refine g_goto (tgt := 232) C dX11_setRebate_186 (by decide) ?_
    refine g_aload_n C dX11_setRebate_232 rfl 0 rfl ?_
    refine gr_get C iwx_X11 0 (hw kw_1809) (by decide) rfl rfl dX11_setRebate_233 ?_
    refine g_iconst (v := 2) C dX11_setRebate_236 (by decide) ?_
    obtain ⟨g53, h⟩ := h
    refine gr_ald_0 C g53 dX11_setRebate_237 ?_
    exact gr_iret C hr dX11_setRebate_238 h
def wp_X11_setRebate_52 (P : Int32 → RST → Prop) (x1 : Int32) (x2 : Int32) (x3 : Int32) (s0 : Int32) (r : Nat → Int32) (q : Nat → Nat → Int32) : Prop := (x1 < 0 → (∀ (v15 : Int32) (r16 : Nat → Int32) (q17 : Nat → Nat → Int32), (v15 = 0 ∧ r16 = va_up r 6 1 ∧ q17 = q) → (P v15 (r16, q17)))) ∧ (¬ x1 < 0 → ((¬ (zin x2 0 50) = 0 → ((¬ x2 = 0 → ((¬ s0 = 0 → (wp_X11_setRebate_110  P x1 x2 x3 s0 r q)) ∧ (s0 = 0 → (vp_in 2 3334 ∧ ((¬ (q 0 (Int32.toNatClampNeg 2)) = 5 → (wp_X11_setRebate_110  P x1 x2 x3 s0 r q)) ∧ ((q 0 (Int32.toNatClampNeg 2)) = 5 → (∀ (v56 : Int32) (r57 : Nat → Int32) (q58 : Nat → Nat → Int32), (v56 = 0 ∧ r57 = va_up r 6 3 ∧ q58 = q) → (P v56 (r57, q58))))))))) ∧ (x2 = 0 → ((¬ s0 = 0 → ((¬ s0 = 0 → (wp_X11_setRebate_110  P x1 x2 x3 s0 r q)) ∧ (s0 = 0 → (vp_in 2 3334 ∧ ((¬ (q 0 (Int32.toNatClampNeg 2)) = 5 → (wp_X11_setRebate_110  P x1 x2 x3 s0 r q)) ∧ ((q 0 (Int32.toNatClampNeg 2)) = 5 → (∀ (v63 : Int32) (r64 : Nat → Int32) (q65 : Nat → Nat → Int32), (v63 = 0 ∧ r64 = va_up r 6 3 ∧ q65 = q) → (P v63 (r64, q65))))))))) ∧ (s0 = 0 → (∀ (v66 : Int32) (r67 : Nat → Int32) (q68 : Nat → Nat → Int32), (v66 = 0 ∧ r67 = va_up r 6 2 ∧ q68 = q) → (P v66 (r67, q68)))))))) ∧ ((zin x2 0 50) = 0 → (∀ (v69 : Int32) (r70 : Nat → Int32) (q71 : Nat → Nat → Int32), (v69 = 0 ∧ r70 = va_up r 6 1 ∧ q71 = q) → (P v69 (r70, q71))))))
set_option maxRecDepth 100000 in
set_option maxHeartbeats 4000000 in
theorem t_X11_setRebate_52 {p : Program} {l : Launch} {e : Env} {s : State} {m : MethodId} {args : Array Value} {below : List Frame} {meth : Method} {c : Code} {D : va_G} {A : Nat → Prop} {T : Nat → ClassId} {m0 : Nat} {a : Nat → Nat} (C : GC p s m args meth c cX11_setRebate "FreightRaterModel" (ws_X11_setRebate) 5 D A (zty T)) (hr : meth.sig.returnType = (some .int)) (P : Int32 → RST → Prop) : ∀ (x1 : Int32) (x2 : Int32) (x3 : Int32) (s0 : Int32) (r : Nat → Int32) (q : Nat → Nat → Int32), wp_X11_setRebate_52  P x1 x2 x3 s0 r q → GW p l e rm_X11_setRebate s m args below meth c D A 5 0 0 (MQ below (va_Qi P (RE D T m0 a A) A) args s 0 0 A) (RW m0 a T r q) 0 0 52 [(0, .ref m0), (1, .int x1), (2, .int x2), (3, .int x3)] [.int s0] := by
  have hw : ∀ {w : Cond}, w ∈ W0 → w.before args s = true := fun h => C.2.2.2.2.1 _ (List.mem_cons_of_mem _ h)
  intro x1 x2 x3 s0 r q h
  unfold wp_X11_setRebate_52 at h
  refine g_istore (lv' := [(4, .int s0), (0, .ref m0), (1, .int x1), (2, .int x2), (3, .int x3)]) C dX11_setRebate_52 (by decide) rfl ?_
  refine g_iload_n C dX11_setRebate_54 rfl 2 rfl ?_
  refine g_if_lt (tgt := 68) C dX11_setRebate_55 (by decide) (fun z14 => ?_) (fun z14 => ?_)
  · replace h := h.1 z14
    refine g_aload_n C dX11_setRebate_68 rfl 1 rfl ?_
    refine g_iconst (v := 1) C dX11_setRebate_69 (by decide) ?_
    refine gr_calliV C [.int 1] rfl (k_X11_refuse l D T m0 a 1 r q) (w0_V 1 C.2.2.2.2.1 kw_1950 kw_1952 ks_50 kw_9 kw_1953 rfl rfl (by decide +kernel) ⟨by decide, by decide⟩) rfl (Nat.le_of_ble_eq_true rfl) (Nat.zero_le _) (Nat.zero_le _) dX11_setRebate_70 (fun v15 r16 q17 hp => ?_)
    replace h := h v15 r16 q17 hp
    exact gr_iret C hr dX11_setRebate_73 h
  · replace h := h.2 z14
    refine g_iload_n C dX11_setRebate_58 rfl 3 rfl ?_
    refine g_iconst (v := 0) C dX11_setRebate_59 (by decide) ?_
    refine g_bipush (v := 50) C dX11_setRebate_60 (by decide) ?_
    refine gr_callSf C [.int x2, .int 0, .int 50] rfl (k_X11_in l D T m0 a x2 0 50 r q) (w0_S 3 C.2.2.2.2.1 kw_1944 kw_1945 kw_9 kw_1946 rfl rfl (by decide +kernel) ⟨by decide, by decide⟩) rfl (Nat.le_of_ble_eq_true rfl) (Nat.zero_le _) (Nat.zero_le _) dX11_setRebate_62 ?_
    refine g_if_ne (tgt := 74) C dX11_setRebate_65 (by decide) (fun z18 => ?_) (fun z18 => ?_)
    · replace h := h.1 z18
      refine g_iload_n C dX11_setRebate_74 rfl 3 rfl ?_
      refine g_if_ne (tgt := 89) C dX11_setRebate_75 (by decide) (fun z19 => ?_) (fun z19 => ?_)
      · replace h := h.1 z19
        refine g_iload C dX11_setRebate_89 0 rfl ?_
        refine g_if_ne (tgt := 110) C dX11_setRebate_91 (by decide) (fun z20 => ?_) (fun z20 => ?_)
        · replace h := h.1 z20
          refine g_locals [1, 2, 3, 4, 0] rfl ?_
          refine t_X11_setRebate_110 C hr  P  x1 x2 x3 s0 r q h
        · replace h := h.2 z20
          refine g_aload_n C dX11_setRebate_94 rfl 1 rfl ?_
          refine gr_get C iwx_X11 0 (hw kw_1809) (by decide) rfl rfl dX11_setRebate_95 ?_
          refine g_iconst (v := 2) C dX11_setRebate_98 (by decide) ?_
          obtain ⟨g54, h⟩ := h
          refine gr_ald_0 C g54 dX11_setRebate_99 ?_
          refine g_iconst (v := 5) C dX11_setRebate_100 (by decide) ?_
          refine g_icmp_ne (tgt := 110) C dX11_setRebate_101 (by decide) (fun z55 => ?_) (fun z55 => ?_)
          · replace h := h.1 z55
            refine g_locals [1, 2, 3, 4, 0] rfl ?_
            refine t_X11_setRebate_110 C hr  P  x1 x2 x3 s0 r q h
          · replace h := h.2 z55
            refine g_aload_n C dX11_setRebate_104 rfl 1 rfl ?_
            refine g_iconst (v := 3) C dX11_setRebate_105 (by decide) ?_
            refine gr_calliV C [.int 3] rfl (k_X11_refuse l D T m0 a 3 r q) (w0_V 1 C.2.2.2.2.1 kw_1950 kw_1952 ks_50 kw_9 kw_1953 rfl rfl (by decide +kernel) ⟨by decide, by decide⟩) rfl (Nat.le_of_ble_eq_true rfl) (Nat.zero_le _) (Nat.zero_le _) dX11_setRebate_106 (fun v56 r57 q58 hp => ?_)
            replace h := h v56 r57 q58 hp
            exact gr_iret C hr dX11_setRebate_109 h
      · replace h := h.2 z19
        refine g_iload C dX11_setRebate_78 0 rfl ?_
        refine g_if_ne (tgt := 89) C dX11_setRebate_80 (by decide) (fun z59 => ?_) (fun z59 => ?_)
        · replace h := h.1 z59
          refine g_iload C dX11_setRebate_89 0 rfl ?_
          refine g_if_ne (tgt := 110) C dX11_setRebate_91 (by decide) (fun z60 => ?_) (fun z60 => ?_)
          · replace h := h.1 z60
            refine g_locals [1, 2, 3, 4, 0] rfl ?_
            refine t_X11_setRebate_110 C hr  P  x1 x2 x3 s0 r q h
          · replace h := h.2 z60
            refine g_aload_n C dX11_setRebate_94 rfl 1 rfl ?_
            refine gr_get C iwx_X11 0 (hw kw_1809) (by decide) rfl rfl dX11_setRebate_95 ?_
            refine g_iconst (v := 2) C dX11_setRebate_98 (by decide) ?_
            obtain ⟨g61, h⟩ := h
            refine gr_ald_0 C g61 dX11_setRebate_99 ?_
            refine g_iconst (v := 5) C dX11_setRebate_100 (by decide) ?_
            refine g_icmp_ne (tgt := 110) C dX11_setRebate_101 (by decide) (fun z62 => ?_) (fun z62 => ?_)
            · replace h := h.1 z62
              refine g_locals [1, 2, 3, 4, 0] rfl ?_
              refine t_X11_setRebate_110 C hr  P  x1 x2 x3 s0 r q h
            · replace h := h.2 z62
              refine g_aload_n C dX11_setRebate_104 rfl 1 rfl ?_
              refine g_iconst (v := 3) C dX11_setRebate_105 (by decide) ?_
              refine gr_calliV C [.int 3] rfl (k_X11_refuse l D T m0 a 3 r q) (w0_V 1 C.2.2.2.2.1 kw_1950 kw_1952 ks_50 kw_9 kw_1953 rfl rfl (by decide +kernel) ⟨by decide, by decide⟩) rfl (Nat.le_of_ble_eq_true rfl) (Nat.zero_le _) (Nat.zero_le _) dX11_setRebate_106 (fun v63 r64 q65 hp => ?_)
              replace h := h v63 r64 q65 hp
              exact gr_iret C hr dX11_setRebate_109 h
        · replace h := h.2 z59
          refine g_aload_n C dX11_setRebate_83 rfl 1 rfl ?_
          refine g_iconst (v := 2) C dX11_setRebate_84 (by decide) ?_
          refine gr_calliV C [.int 2] rfl (k_X11_refuse l D T m0 a 2 r q) (w0_V 1 C.2.2.2.2.1 kw_1950 kw_1952 ks_50 kw_9 kw_1953 rfl rfl (by decide +kernel) ⟨by decide, by decide⟩) rfl (Nat.le_of_ble_eq_true rfl) (Nat.zero_le _) (Nat.zero_le _) dX11_setRebate_85 (fun v66 r67 q68 hp => ?_)
          replace h := h v66 r67 q68 hp
          exact gr_iret C hr dX11_setRebate_88 h
    · replace h := h.2 z18
      refine g_aload_n C dX11_setRebate_68 rfl 1 rfl ?_
      refine g_iconst (v := 1) C dX11_setRebate_69 (by decide) ?_
      refine gr_calliV C [.int 1] rfl (k_X11_refuse l D T m0 a 1 r q) (w0_V 1 C.2.2.2.2.1 kw_1950 kw_1952 ks_50 kw_9 kw_1953 rfl rfl (by decide +kernel) ⟨by decide, by decide⟩) rfl (Nat.le_of_ble_eq_true rfl) (Nat.zero_le _) (Nat.zero_le _) dX11_setRebate_70 (fun v69 r70 q71 hp => ?_)
      replace h := h v69 r70 q71 hp
      exact gr_iret C hr dX11_setRebate_73 h
def wp_X11_setRebate (P : Int32 → RST → Prop) (p0 : Int32) (p1 : Int32) (r : Nat → Int32) (q : Nat → Nat → Int32) : Prop := ∀ r1 : Nat → Int32, r1 = va_up r 6 0 → (∃ k72 : Nat, wp_X11_setRebate_7 (fun (y7 : Int32) (y8 : Int32) (y9 : Int32) (r10 : Nat → Int32) (q11 : Nat → Nat → Int32) => vp_in 2 3334 ∧ (((q11 0 (Int32.toNatClampNeg 2)) ≤ y9 → (wp_X11_setRebate_52  P y7 y8 y9 0 r10 q11)) ∧ (¬ (q11 0 (Int32.toNatClampNeg 2)) ≤ y9 → (wp_X11_setRebate_52  P y7 y8 y9 1 r10 q11)))) P k72 p0 p1 0 r1 q)
set_option maxRecDepth 100000 in
set_option maxHeartbeats 4000000 in
theorem t_X11_setRebate {p : Program} {l : Launch} {e : Env} {s : State} {m : MethodId} {args : Array Value} {below : List Frame} {meth : Method} {c : Code} {D : va_G} {A : Nat → Prop} {T : Nat → ClassId} {m0 : Nat} {a : Nat → Nat} (C : GC p s m args meth c cX11_setRebate "FreightRaterModel" (ws_X11_setRebate) 5 D A (zty T)) (hr : meth.sig.returnType = (some .int)) (P : Int32 → RST → Prop) : ∀ (p0 : Int32) (p1 : Int32) (r : Nat → Int32) (q : Nat → Nat → Int32), wp_X11_setRebate P p0 p1 r q → GW p l e rm_X11_setRebate s m args below meth c D A 5 0 0 (MQ below (va_Qi P (RE D T m0 a A) A) args s 0 0 A) (RW m0 a T r q) 0 0 0 [(0, .ref m0), (1, .int p0), (2, .int p1)] [] := by
  have hw : ∀ {w : Cond}, w ∈ W0 → w.before args s = true := fun h => C.2.2.2.2.1 _ (List.mem_cons_of_mem _ h)
  intro p0 p1 r q h
  unfold wp_X11_setRebate at h
  refine g_aload_n C dX11_setRebate_0 rfl 0 rfl ?_
  refine g_iconst (v := 0) C dX11_setRebate_1 (by decide) ?_
  refine gr_put_6 C iwx_X11 (hw kw_1815) dX11_setRebate_2 ?_
  refine gr_nr (fun r1 er1 => ?_)
  replace h := h r1 er1
  refine g_iconst (v := 0) C dX11_setRebate_5 (by decide) ?_
  refine g_istore_n (lv' := [(3, .int 0), (0, .ref m0), (1, .int p0), (2, .int p1)]) C dX11_setRebate_6 rfl (by decide) rfl ?_
  refine g_locals [1, 2, 3, 0] rfl ?_
  obtain ⟨k72, h⟩ := h
  refine t_X11_setRebate_7 C hr _ P ?_ k72 p0 p1 0 r1 q h
  · intro y7 y8 y9 r10 q11 h
    refine g_iload_n C dX11_setRebate_37 rfl 3 rfl ?_
    refine g_aload_n C dX11_setRebate_38 rfl 0 rfl ?_
    refine gr_get C iwx_X11 0 (hw kw_1809) (by decide) rfl rfl dX11_setRebate_39 ?_
    refine g_iconst (v := 2) C dX11_setRebate_42 (by decide) ?_
    obtain ⟨g12, h⟩ := h
    refine gr_ald_0 C g12 dX11_setRebate_43 ?_
    refine g_icmp_ge (tgt := 51) C dX11_setRebate_44 (by decide) (fun z13 => ?_) (fun z13 => ?_)
    · replace h := h.1 z13
      refine g_iconst (v := 0) C dX11_setRebate_51 (by decide) ?_
      refine g_locals [0, 1, 2, 3] rfl ?_
      refine t_X11_setRebate_52 C hr  P  y7 y8 y9 0 r10 q11 h
    · replace h := h.2 z13
      refine g_iconst (v := 1) C dX11_setRebate_47 (by decide) ?_
      refine g_goto (tgt := 52) C dX11_setRebate_48 (by decide) ?_
      refine g_locals [0, 1, 2, 3] rfl ?_
      refine t_X11_setRebate_52 C hr  P  y7 y8 y9 1 r10 q11 h
theorem c_X11_setRebate (l : Launch) (D : va_G) (T : Nat → ClassId) (m0 : Nat) (a : Nat → Nat) (p0 : Int32) (p1 : Int32) (r : Nat → Int32) (q : Nat → Nat → Int32) (P : Int32 → RST → Prop) (h : wp_X11_setRebate P p0 p1 r q) : RMi l yX11_setRebate (ws_X11_setRebate) rm_X11_setRebate D T m0 a [.ref m0, .int p0, .int p1] r q P := gr_meti (by decide) rfl rfl (Nat.le_of_ble_eq_true rfl) (fun p e s m args below meth c A C hr => t_X11_setRebate C hr P p0 p1 r q h)
theorem rl_reb7 {K : Int32 → Int32 → Int32 → (Nat → Int32) → (Nat → Nat → Int32) → Prop} {P : Int32 → RST → Prop} {r : Nat → Int32} {q : Nat → Nat → Int32} {t p : Int32} {n : Nat} (hn : n ≤ 5) (hm : q 0 2 = nI n) : ∀ (k i fuel : Nat), i + k = n → k < fuel → K t p (nI (stxF (q 0) t k i)) r q → wp_X11_setRebate_7 K P fuel t p (nI i) r q := by
  intro k
  induction k with
  | zero =>
    intro i fuel hi hf hk
    obtain ⟨f, rfl⟩ : ∃ f, fuel = f + 1 := ⟨fuel - 1, by omega⟩; rw [wp_X11_setRebate_7]; unfold wb_X11_setRebate_7; dsimp only
    simp (disch := omega) only [hm, li_2, li_3, li_4, li_5, li_6, li_7, li_8, li_9, li_10, li_12, li_14, li_20, li_26, li_30, li_31, li_36, li_38, li_47, li_48, li_50, li_57, li_58, li_80, li_98, li_99, li_100, li_102, li_104, li_105, li_108, li_109, li_110, li_114, li_115, li_119, li_122, li_137, li_146, li_147, li_148, li_149, li_150, li_200, li_255, li_256, li_274, li_510, li_512, li_640, li_999, li_1000, li_1024, li_3334, li_5000, li_9999, li_10000, li_23338, li_26672, li_30000, li_99999, li_150000, li_300000, pk_mul, nI_add, pk_sub, nI_clamp, nI_1, nI_p1, nI_a0, nI_0a, nI_m0, nI_m1, cl_0, cl_1, z01, z11, nI_leI, nI_ltI, nI_eq, nz_lt0, nz_le, nz_eq0, nz_pos, nz_le0, nz_eq1, nz_lt1, nz_ge1, nz_le1, nz_gt1, nz_vp, nz_vp0, nz_vp1, six_nI, vix_nI, bix_nI, pix_nI, fix_nI, gix_nI, rix_nI, zix_nI, pix_0, pix_1, bix_0, fix_0, fix_1, rix_1, true_and, and_true]
    exact ⟨by decide, fun _ => hk, fun h => absurd (by omega) h⟩
  | succ k ih =>
    intro i fuel hi hf hk
    obtain ⟨f, rfl⟩ : ∃ f, fuel = f + 1 := ⟨fuel - 1, by omega⟩; rw [wp_X11_setRebate_7]; unfold wb_X11_setRebate_7; dsimp only
    rw [stxF] at hk
    simp (disch := omega) only [hm, li_2, li_3, li_4, li_5, li_6, li_7, li_8, li_9, li_10, li_12, li_14, li_20, li_26, li_30, li_31, li_36, li_38, li_47, li_48, li_50, li_57, li_58, li_80, li_98, li_99, li_100, li_102, li_104, li_105, li_108, li_109, li_110, li_114, li_115, li_119, li_122, li_137, li_146, li_147, li_148, li_149, li_150, li_200, li_255, li_256, li_274, li_510, li_512, li_640, li_999, li_1000, li_1024, li_3334, li_5000, li_9999, li_10000, li_23338, li_26672, li_30000, li_99999, li_150000, li_300000, pk_mul, nI_add, pk_sub, nI_clamp, nI_1, nI_p1, nI_a0, nI_0a, nI_m0, nI_m1, cl_0, cl_1, z01, z11, nI_leI, nI_ltI, nI_eq, nz_lt0, nz_le, nz_eq0, nz_pos, nz_le0, nz_eq1, nz_lt1, nz_ge1, nz_le1, nz_gt1, nz_vp, nz_vp0, nz_vp1, six_nI, vix_nI, bix_nI, pix_nI, fix_nI, gix_nI, rix_nI, zix_nI, pix_0, pix_1, bix_0, fix_0, fix_1, rix_1, true_and, and_true]
    refine ⟨by decide, fun h => absurd h (by omega), fun _ => ⟨by omega, fun c => ?_, fun c v6 e6 => ?_⟩⟩
    · rw [if_pos c] at hk; exact hk
    · subst e6
      rw [if_neg c] at hk
      exact ih (i + 1) f (by omega) (by omega) hk
theorem w_reb110 {P : Int32 → RST → Prop} {r : Nat → Int32} {q : Nat → Nat → Int32} {t p s0 : Int32} {n : Nat} (hw : WF (q 0)) (hc8 : CW8 r) (hn : n ≤ 5) (hm : q 0 2 = nI n) (hs : (s0 = 0 ∧ ¬ stx (q 0) t < n) ∨ (s0 = 1 ∧ stx (q 0) t < n)) (h5 : s0 = 0 → ¬ n = 5 ∧ ¬ p = 0) (hP : ∀ v r1 q1, stP r q 0 (rebS (q 0) t p) (rebS (q 0) t p 2) v r1 q1 → P v (r1, q1)) : wp_X11_setRebate_110 P t p (nI (stx (q 0) t)) s0 (va_up r 6 0) q := by
  have hx : stx (q 0) t ≤ n := by
    have := (stx_le (μ := q 0) (t := t) n 0).2
    unfold stx
    rw [hm, show iv (nI n) = n from nI_clamp (by omega)]
    omega
  have en : iv (q 0 2) = n := by rw [hm]; exact nI_clamp (by omega)
  unfold wp_X11_setRebate_110
  refine ⟨hc8.u6, fun r22 q23 hh => ?_⟩
  have e0 : q23 0 = q 0 := hh.2.1 0 (by decide)
  generalize ei : stx (q 0) t = i at hx hs ⊢
  unfold rebS at hP
  rw [ei, en] at hP
  have fin : ∀ q1 : Nat → Nat → Int32, kQ q23 q1 [0] → q1 0 = (if p = 0 then upd (upd (upd (q 0) 2 (q 0 2 - 1)) (4 + 2 * i) (q 0 (4 + 2 * (n - 1)))) (4 + 2 * i + 1) (q 0 (4 + 2 * (n - 1) + 1)) else upd (upd (upd (q 0) 2 (if i < n then q 0 2 else q 0 2 + 1)) (4 + 2 * i) t) (4 + 2 * i + 1) p) → P (q1 0 2) (r22, q1) := fun q1 a1 a2 => hP _ _ _ (stP.ok rfl hh a1 a2 (by rw [a2]))
  refine ⟨fun c => ?_, fun c => ?_⟩
  · rw [if_neg c] at fin
    simp (disch := omega) only [e0, li_2, li_3, li_4, li_5, li_6, li_7, li_8, li_9, li_10, li_12, li_14, li_20, li_26, li_30, li_31, li_36, li_38, li_47, li_48, li_50, li_57, li_58, li_80, li_98, li_99, li_100, li_102, li_104, li_105, li_108, li_109, li_110, li_114, li_115, li_119, li_122, li_137, li_146, li_147, li_148, li_149, li_150, li_200, li_255, li_256, li_274, li_510, li_512, li_640, li_999, li_1000, li_1024, li_3334, li_5000, li_9999, li_10000, li_23338, li_26672, li_30000, li_99999, li_150000, li_300000, pk_mul, nI_add, pk_sub, nI_clamp, nI_1, nI_p1, nI_a0, nI_0a, nI_m0, nI_m1, cl_0, cl_1, z01, z11, nI_leI, nI_ltI, nI_eq, nz_lt0, nz_le, nz_eq0, nz_pos, nz_le0, nz_eq1, nz_lt1, nz_ge1, nz_le1, nz_gt1, nz_vp, nz_vp0, nz_vp1, six_nI, vix_nI, bix_nI, pix_nI, fix_nI, gix_nI, rix_nI, zix_nI, pix_0, pix_1, bix_0, fix_0, fix_1, rix_1, true_and, and_true]
    rcases hs with ⟨rfl, hlt⟩ | ⟨rfl, hlt⟩
    · obtain ⟨h5a, _⟩ := h5 rfl
      refine ⟨by decide, fun _ => ⟨by decide, fun q29 e29 => ⟨by omega, fun q31 e31 => ⟨by omega, fun q33 e33 => ⟨by decide, ?_⟩⟩⟩⟩, fun z => absurd rfl z⟩
      refine fin q33 ?_ ?_
      · rw [e33, e31, e29]; exact ((kQ.rf.up (by decide) _).up (by decide) _).up (by decide) _
      · rw [e33, va_up_self, e31, va_up_self, e29, va_up_self, if_neg hlt]
    · refine ⟨by decide, fun z => absurd z (by decide), fun _ => ⟨by decide, fun q29 e29 => ⟨by omega, fun q31 e31 => ⟨by omega, fun q33 e33 => ⟨by decide, ?_⟩⟩⟩⟩⟩
      refine fin q33 ?_ ?_
      · rw [e33, e31, e29]; exact ((kQ.rf.up (by decide) _).up (by decide) _).up (by decide) _
      · rw [e33, va_up_self, e31, va_up_self, e29, va_up_self, if_pos hlt, show q 0 2 + 0 = q 0 2 from Int32.add_zero _]
  · rw [if_pos c] at fin
    rcases hs with ⟨rfl, hlt⟩ | ⟨rfl, hlt⟩
    · exact absurd c (h5 rfl).2
    have f2 : upd (q 0) 2 (q 0 2 - 1) 2 = nI (n - 1) := by rw [pk_us, hm, nI_p1 (by omega)]
    simp (disch := omega) only [e0, li_2, li_3, li_4, li_5, li_6, li_7, li_8, li_9, li_10, li_12, li_14, li_20, li_26, li_30, li_31, li_36, li_38, li_47, li_48, li_50, li_57, li_58, li_80, li_98, li_99, li_100, li_102, li_104, li_105, li_108, li_109, li_110, li_114, li_115, li_119, li_122, li_137, li_146, li_147, li_148, li_149, li_150, li_200, li_255, li_256, li_274, li_510, li_512, li_640, li_999, li_1000, li_1024, li_3334, li_5000, li_9999, li_10000, li_23338, li_26672, li_30000, li_99999, li_150000, li_300000, pk_mul, nI_add, pk_sub, nI_clamp, nI_1, nI_p1, nI_a0, nI_0a, nI_m0, nI_m1, cl_0, cl_1, z01, z11, nI_leI, nI_ltI, nI_eq, nz_lt0, nz_le, nz_eq0, nz_pos, nz_le0, nz_eq1, nz_lt1, nz_ge1, nz_le1, nz_gt1, nz_vp, nz_vp0, nz_vp1, six_nI, vix_nI, bix_nI, pix_nI, fix_nI, gix_nI, rix_nI, zix_nI, pix_0, pix_1, bix_0, fix_0, fix_1, rix_1, true_and, and_true]
    refine ⟨by decide, by decide, fun q44 e44 => ?_⟩
    have g2 : q44 0 2 = nI (n - 1) := by rw [e44, va_up_self]; exact f2
    simp (disch := omega) only [g2, li_2, li_3, li_4, li_5, li_6, li_7, li_8, li_9, li_10, li_12, li_14, li_20, li_26, li_30, li_31, li_36, li_38, li_47, li_48, li_50, li_57, li_58, li_80, li_98, li_99, li_100, li_102, li_104, li_105, li_108, li_109, li_110, li_114, li_115, li_119, li_122, li_137, li_146, li_147, li_148, li_149, li_150, li_200, li_255, li_256, li_274, li_510, li_512, li_640, li_999, li_1000, li_1024, li_3334, li_5000, li_9999, li_10000, li_23338, li_26672, li_30000, li_99999, li_150000, li_300000, pk_mul, nI_add, pk_sub, nI_clamp, nI_1, nI_p1, nI_a0, nI_0a, nI_m0, nI_m1, cl_0, cl_1, z01, z11, nI_leI, nI_ltI, nI_eq, nz_lt0, nz_le, nz_eq0, nz_pos, nz_le0, nz_eq1, nz_lt1, nz_ge1, nz_le1, nz_gt1, nz_vp, nz_vp0, nz_vp1, six_nI, vix_nI, bix_nI, pix_nI, fix_nI, gix_nI, rix_nI, zix_nI, pix_0, pix_1, bix_0, fix_0, fix_1, rix_1, true_and, and_true]
    refine ⟨by decide, by omega, by omega, fun q48 e48 => ?_⟩
    have g3 : q48 0 2 = nI (n - 1) := by rw [e48, va_up_self, pk_un (by omega)]; exact g2
    simp (disch := omega) only [g3, li_2, li_3, li_4, li_5, li_6, li_7, li_8, li_9, li_10, li_12, li_14, li_20, li_26, li_30, li_31, li_36, li_38, li_47, li_48, li_50, li_57, li_58, li_80, li_98, li_99, li_100, li_102, li_104, li_105, li_108, li_109, li_110, li_114, li_115, li_119, li_122, li_137, li_146, li_147, li_148, li_149, li_150, li_200, li_255, li_256, li_274, li_510, li_512, li_640, li_999, li_1000, li_1024, li_3334, li_5000, li_9999, li_10000, li_23338, li_26672, li_30000, li_99999, li_150000, li_300000, pk_mul, nI_add, pk_sub, nI_clamp, nI_1, nI_p1, nI_a0, nI_0a, nI_m0, nI_m1, cl_0, cl_1, z01, z11, nI_leI, nI_ltI, nI_eq, nz_lt0, nz_le, nz_eq0, nz_pos, nz_le0, nz_eq1, nz_lt1, nz_ge1, nz_le1, nz_gt1, nz_vp, nz_vp0, nz_vp1, six_nI, vix_nI, bix_nI, pix_nI, fix_nI, gix_nI, rix_nI, zix_nI, pix_0, pix_1, bix_0, fix_0, fix_1, rix_1, true_and, and_true]
    refine ⟨by decide, by omega, by omega, fun q52 e52 => ⟨by decide, ?_⟩⟩
    refine fin q52 ?_ ?_
    · rw [e52, e48, e44]; exact ((kQ.rf.up (by decide) _).up (by decide) _).up (by decide) _
    · rw [e52, va_up_self, e48, va_up_self, e44, va_up_self, pk_un (by omega)]
      congr 1
      rcases Nat.lt_or_ge i (n - 1) with z | z
      · rw [pk_un (by omega), pk_un (by omega)]
      · rw [show n - 1 = i by omega, pk_un (by omega), pk_un (by omega)]
theorem k_X11_setRebate (l : Launch) (D : va_G) (T : Nat → ClassId) (m0 : Nat) (a : Nat → Nat) (p0 : Int32) (p1 : Int32) (r : Nat → Int32) (q : Nat → Nat → Int32) (h : WF (q 0) ∧ CW8 r) : RMi l yX11_setRebate (ws_X11_setRebate) rm_X11_setRebate D T m0 a [.ref m0, .int p0, .int p1] r q (fun v u => (stP r q (rebC (q 0) p0 p1) (rebS (q 0) p0 p1) (rebS (q 0) p0 p1 2) v u.1 u.2)) := c_X11_setRebate l D T m0 a p0 p1 r q _ <|
  (by
    obtain ⟨hw, hc8⟩ := h
    obtain ⟨n, hn, hm⟩ := hw.2.2.1
    have en : iv (q 0 2) = n := by rw [hm]; exact nI_clamp (by omega)
    have ex : stx (q 0) p0 = stxF (q 0) p0 n 0 := by unfold stx; rw [en]
    have hx := (stx_le (μ := q 0) (t := p0) n 0).2
    unfold wp_X11_setRebate
    intro r1 e1
    subst e1
    refine ⟨n + 1, rl_reb7 hn hm n 0 _ (by omega) (by omega) ?_⟩
    rw [← ex] at hx ⊢
    have main : ∀ s0 : Int32, ((s0 = 0 ∧ ¬ stx (q 0) p0 < n) ∨ (s0 = 1 ∧ stx (q 0) p0 < n)) → wp_X11_setRebate_52 (fun v u => stP r q (rebC (q 0) p0 p1) (rebS (q 0) p0 p1) (rebS (q 0) p0 p1 2) v u.1 u.2) p0 p1 (nI (stx (q 0) p0)) s0 (va_up r 6 0) q := by
      intro s0 hs
      have bad : ∀ c : Int32, rebC (q 0) p0 p1 = c → ¬ c = 0 → ∀ (v : Int32) (r2 : Nat → Int32) (q2 : Nat → Nat → Int32), (v = 0 ∧ r2 = va_up (va_up r 6 0) 6 c ∧ q2 = q) → stP r q (rebC (q 0) p0 p1) (rebS (q 0) p0 p1) (rebS (q 0) p0 p1 2) v r2 q2 := by
        intro c h1 h2 v r2 q2 hh
        obtain ⟨a1, a2, a3⟩ := hh
        rw [a2, a3, vu_up]
        exact stP.bad h1 h2
      have ok : ∀ h : rebC (q 0) p0 p1 = 0, (s0 = 0 → ¬ n = 5 ∧ ¬ p1 = 0) → wp_X11_setRebate_110 (fun v u => stP r q (rebC (q 0) p0 p1) (rebS (q 0) p0 p1) (rebS (q 0) p0 p1 2) v u.1 u.2) p0 p1 (nI (stx (q 0) p0)) s0 (va_up r 6 0) q := fun h h5 => w_reb110 hw hc8 hn hm hs h5 (fun v r1 q1 z => by rw [h]; exact z)
      unfold wp_X11_setRebate_52
      have eC : rebC (q 0) p0 p1 = (if p0 < 0 then 1 else if zin p1 0 50 = 0 then 1 else if p1 = 0 ∧ ¬ stx (q 0) p0 < n then 2 else if ¬ stx (q 0) p0 < n ∧ n = 5 then 3 else 0) := by unfold rebC; rw [en]
      refine ⟨fun c => bad 1 (by rw [eC, if_pos c]) (by decide), fun c1 => ⟨fun c2 => ⟨fun c3 => ⟨fun c4 => ?_, fun c4 => ⟨by simp (disch := omega) only [li_2, li_3, li_4, li_5, li_6, li_7, li_8, li_9, li_10, li_12, li_14, li_20, li_26, li_30, li_31, li_36, li_38, li_47, li_48, li_50, li_57, li_58, li_80, li_98, li_99, li_100, li_102, li_104, li_105, li_108, li_109, li_110, li_114, li_115, li_119, li_122, li_137, li_146, li_147, li_148, li_149, li_150, li_200, li_255, li_256, li_274, li_510, li_512, li_640, li_999, li_1000, li_1024, li_3334, li_5000, li_9999, li_10000, li_23338, li_26672, li_30000, li_99999, li_150000, li_300000, pk_mul, nI_add, pk_sub, nI_clamp, nI_1, nI_p1, nI_a0, nI_0a, nI_m0, nI_m1, cl_0, cl_1, z01, z11, nI_leI, nI_ltI, nI_eq, nz_lt0, nz_le, nz_eq0, nz_pos, nz_le0, nz_eq1, nz_lt1, nz_ge1, nz_le1, nz_gt1, nz_vp, nz_vp0, nz_vp1, six_nI, vix_nI, bix_nI, pix_nI, fix_nI, gix_nI, rix_nI, zix_nI, pix_0, pix_1, bix_0, fix_0, fix_1, rix_1, true_and, and_true]; decide, fun c5 => ?_, fun c5 => bad 3 ?_ (by decide)⟩⟩, fun c3 => ⟨fun c4 => ⟨fun _ => ?_, fun z => absurd z c4⟩, fun c4 => bad 2 ?_ (by decide)⟩⟩, fun c2 => bad 1 (by rw [eC, if_neg c1, if_pos c2]) (by decide)⟩⟩
      · have hlt : stx (q 0) p0 < n := by rcases hs with h | h; exact absurd h.1 c4; exact h.2
        exact ok (by rw [eC, if_neg c1, if_neg c2, if_neg (fun z => z.2 hlt), if_neg (fun z => z.1 hlt)]) (fun z => absurd z c4)
      · have hn5 : ¬ n = 5 := fun z => c5 (show q 0 2 = 5 by rw [hm, z]; rfl)
        exact ok (by rw [eC, if_neg c1, if_neg c2, if_neg (fun z => c3 z.1), if_neg (fun z => hn5 z.2)]) (fun _ => ⟨hn5, c3⟩)
      · have hlt : ¬ stx (q 0) p0 < n := by rcases hs with h | h; exact h.2; exact absurd (h.1.symm.trans c4) (by decide : ¬ (1 : Int32) = 0)
        have hn5 : n = 5 := by
          have : nI n = nI 5 := hm.symm.trans c5
          exact (nI_eq (by omega) (by decide)).mp this
        rw [eC, if_neg c1, if_neg c2, if_neg (fun z => c3 z.1), if_pos ⟨hlt, hn5⟩]
      · have hlt : stx (q 0) p0 < n := by rcases hs with h | h; exact absurd h.1 c4; exact h.2
        exact ok (by rw [eC, if_neg c1, if_neg c2, if_neg (fun z => z.2 hlt), if_neg (fun z => z.1 hlt)]) (fun z => absurd z c4)
      · have hlt : ¬ stx (q 0) p0 < n := by rcases hs with h | h; exact h.2; exact absurd (h.1.symm.trans c4) (by decide : ¬ (1 : Int32) = 0)
        rw [eC, if_neg c1, if_neg c2, if_pos ⟨c3, hlt⟩]
    simp (disch := omega) only [hm, li_2, li_3, li_4, li_5, li_6, li_7, li_8, li_9, li_10, li_12, li_14, li_20, li_26, li_30, li_31, li_36, li_38, li_47, li_48, li_50, li_57, li_58, li_80, li_98, li_99, li_100, li_102, li_104, li_105, li_108, li_109, li_110, li_114, li_115, li_119, li_122, li_137, li_146, li_147, li_148, li_149, li_150, li_200, li_255, li_256, li_274, li_510, li_512, li_640, li_999, li_1000, li_1024, li_3334, li_5000, li_9999, li_10000, li_23338, li_26672, li_30000, li_99999, li_150000, li_300000, pk_mul, nI_add, pk_sub, nI_clamp, nI_1, nI_p1, nI_a0, nI_0a, nI_m0, nI_m1, cl_0, cl_1, z01, z11, nI_leI, nI_ltI, nI_eq, nz_lt0, nz_le, nz_eq0, nz_pos, nz_le0, nz_eq1, nz_lt1, nz_ge1, nz_le1, nz_gt1, nz_vp, nz_vp0, nz_vp1, six_nI, vix_nI, bix_nI, pix_nI, fix_nI, gix_nI, rix_nI, zix_nI, pix_0, pix_1, bix_0, fix_0, fix_1, rix_1, true_and, and_true]
    exact ⟨by decide, fun c => main 0 (Or.inl ⟨rfl, by omega⟩), fun c => main 1 (Or.inr ⟨rfl, by omega⟩)⟩)
abbrev ws_X11_makeVersion : List Cond := Cond.code yX11_makeVersion cX11_makeVersion 6 (some .int) :: W0
abbrev rm_X11_makeVersion : Room := ({ frames := 2, cells := 0, slots := 0, locals := 43 } : Room)
def wb_X11_makeVersion_17 (rec : Int32 → Int32 → Int32 → Int32 → (Nat → Int32) → (Nat → Nat → Int32) → Prop) (K58 : Int32 → Int32 → Int32 → (Nat → Int32) → (Nat → Nat → Int32) → Prop) (P : Int32 → RST → Prop) (x1 : Int32) (x2 : Int32) (x3 : Int32) (x4 : Int32) (r : Nat → Int32) (q : Nat → Nat → Int32) : Prop := vp_in 0 3334 ∧ (((q 0 (Int32.toNatClampNeg 0)) ≤ x4 → (K58 x1 x2 x3 r q)) ∧ (¬ (q 0 (Int32.toNatClampNeg 0)) ≤ x4 → (vp_in ((274 + 510 * x4) + 0) 3334 ∧ (((q 0 (Int32.toNatClampNeg ((274 + 510 * x4) + 0))) = x1 → (∀ v7 : Int32, v7 = (x3 &&& 0) → (∀ v8 : Int32, v8 = x4 + 1 → (rec x1 x2 v7 v8 r q)))) ∧ (¬ (q 0 (Int32.toNatClampNeg ((274 + 510 * x4) + 0))) = x1 → (∀ v9 : Int32, v9 = (x3 &&& 1) → (∀ v10 : Int32, v10 = x4 + 1 → (rec x1 x2 v9 v10 r q))))))))
def wp_X11_makeVersion_17 (K58 : Int32 → Int32 → Int32 → (Nat → Int32) → (Nat → Nat → Int32) → Prop) (P : Int32 → RST → Prop) : Nat → Int32 → Int32 → Int32 → Int32 → (Nat → Int32) → (Nat → Nat → Int32) → Prop
  | 0 => fun _ _ _ _ _ _ => False
  | n + 1 => fun x1 x2 x3 x4 r q => wb_X11_makeVersion_17 (wp_X11_makeVersion_17 K58 P n) K58 P x1 x2 x3 x4 r q
set_option maxRecDepth 100000 in
set_option maxHeartbeats 4000000 in
theorem t_X11_makeVersion_17 {p : Program} {l : Launch} {e : Env} {s : State} {m : MethodId} {args : Array Value} {below : List Frame} {meth : Method} {c : Code} {D : va_G} {A : Nat → Prop} {T : Nat → ClassId} {m0 : Nat} {a : Nat → Nat} (C : GC p s m args meth c cX11_makeVersion "FreightRaterModel" (ws_X11_makeVersion) 6 D A (zty T)) (hr : meth.sig.returnType = (some .int)) (K58 : Int32 → Int32 → Int32 → (Nat → Int32) → (Nat → Nat → Int32) → Prop) (P : Int32 → RST → Prop) (hK58 : ∀ (x1 : Int32) (x2 : Int32) (x3 : Int32) (r : Nat → Int32) (q : Nat → Nat → Int32), K58 x1 x2 x3 r q → GW p l e rm_X11_makeVersion s m args below meth c D A 6 0 0 (MQ below (va_Qi P (RE D T m0 a A) A) args s 0 0 A) (RW m0 a T r q) 0 0 58 [(0, .ref m0), (1, .int x1), (2, .int x2), (3, .int x3)] []) : ∀ (n : Nat) (x1 : Int32) (x2 : Int32) (x3 : Int32) (x4 : Int32) (r : Nat → Int32) (q : Nat → Nat → Int32), wp_X11_makeVersion_17 K58 P n x1 x2 x3 x4 r q → GW p l e rm_X11_makeVersion s m args below meth c D A 6 0 0 (MQ below (va_Qi P (RE D T m0 a A) A) args s 0 0 A) (RW m0 a T r q) 0 0 17 [(0, .ref m0), (1, .int x1), (2, .int x2), (3, .int x3), (4, .int x4)] [] := by
  have hw : ∀ {w : Cond}, w ∈ W0 → w.before args s = true := fun h => C.2.2.2.2.1 _ (List.mem_cons_of_mem _ h)
  intro n
  induction n with
  | zero => intro x1 x2 x3 x4 r q h; exact h.elim
  | succ n ih =>
    intro x1 x2 x3 x4 r q h
    replace h : wb_X11_makeVersion_17 (wp_X11_makeVersion_17 K58 P n) K58 P x1 x2 x3 x4 r q := h
    unfold wb_X11_makeVersion_17 at h
    refine g_iload C dX11_makeVersion_17 4 rfl ?_
    refine g_aload_n C dX11_makeVersion_19 rfl 0 rfl ?_
    refine gr_get C iwx_X11 0 (hw kw_1809) (by decide) rfl rfl dX11_makeVersion_20 ?_
    refine g_iconst (v := 0) C dX11_makeVersion_23 (by decide) ?_
    obtain ⟨g3, h⟩ := h
    refine gr_ald_0 C g3 dX11_makeVersion_24 ?_
    refine g_icmp_ge (tgt := 58) C dX11_makeVersion_25 (by decide) (fun z4 => ?_) (fun z4 => ?_)
    · replace h := h.1 z4
      refine g_locals [0, 1, 2, 3] rfl ?_
      exact hK58 x1 x2 x3 r q h
    · replace h := h.2 z4
      refine g_iload_n C dX11_makeVersion_28 rfl 3 rfl ?_
      refine g_aload_n C dX11_makeVersion_29 rfl 0 rfl ?_
      refine gr_get C iwx_X11 0 (hw kw_1809) (by decide) rfl rfl dX11_makeVersion_30 ?_
      refine g_iload C dX11_makeVersion_33 4 rfl ?_
      refine gr_callSf C [.int x4] rfl (k_X11_at l D T m0 a x4 r q) (w0_S 1 C.2.2.2.2.1 kw_1947 kw_1948 kw_9 kw_1949 rfl rfl (by decide +kernel) ⟨by decide, by decide⟩) rfl (Nat.le_of_ble_eq_true rfl) (Nat.zero_le _) (Nat.zero_le _) dX11_makeVersion_35 ?_
      refine g_iconst (v := 0) C dX11_makeVersion_38 (by decide) ?_
      refine g_iadd C dX11_makeVersion_39 ?_
      obtain ⟨g5, h⟩ := h
      refine gr_ald_0 C g5 dX11_makeVersion_40 ?_
      refine g_iload_n C dX11_makeVersion_41 rfl 1 rfl ?_
      refine g_icmp_eq (tgt := 49) C dX11_makeVersion_42 (by decide) (fun z6 => ?_) (fun z6 => ?_)
      · replace h := h.1 z6
        refine g_iconst (v := 0) C dX11_makeVersion_49 (by decide) ?_
        refine g_iand C dX11_makeVersion_50 ?_
        refine g_topi (fun v7 ev7 => ?_)
        replace h := h v7 ev7
        refine g_istore_n (lv' := [(3, .int v7), (0, .ref m0), (1, .int x1), (2, .int x2), (4, .int x4)]) C dX11_makeVersion_51 rfl (by decide) rfl ?_
        obtain ⟨v8, ev8⟩ : ∃ y : Int32, y = x4 + 1 := ⟨_, rfl⟩
        replace h := h v8 ev8
        refine g_iinc (v := v8) (lv' := [(4, .int v8), (3, .int v7), (0, .ref m0), (1, .int x1), (2, .int x2)]) C dX11_makeVersion_52 (j := 4) rfl (by rw [ev8]; rfl) (by decide) rfl ?_
        refine g_goto (tgt := 17) C dX11_makeVersion_55 (by decide) ?_
        refine g_locals [2, 3, 4, 1, 0] rfl ?_
        exact ih x1 x2 v7 v8 r q h
      · replace h := h.2 z6
        refine g_iconst (v := 1) C dX11_makeVersion_45 (by decide) ?_
        refine g_goto (tgt := 50) C dX11_makeVersion_46 (by decide) ?_
        refine g_iand C dX11_makeVersion_50 ?_
        refine g_topi (fun v9 ev9 => ?_)
        replace h := h v9 ev9
        refine g_istore_n (lv' := [(3, .int v9), (0, .ref m0), (1, .int x1), (2, .int x2), (4, .int x4)]) C dX11_makeVersion_51 rfl (by decide) rfl ?_
        obtain ⟨v10, ev10⟩ : ∃ y : Int32, y = x4 + 1 := ⟨_, rfl⟩
        replace h := h v10 ev10
        refine g_iinc (v := v10) (lv' := [(4, .int v10), (3, .int v9), (0, .ref m0), (1, .int x1), (2, .int x2)]) C dX11_makeVersion_52 (j := 4) rfl (by rw [ev10]; rfl) (by decide) rfl ?_
        refine g_goto (tgt := 17) C dX11_makeVersion_55 (by decide) ?_
        refine g_locals [2, 3, 4, 1, 0] rfl ?_
        exact ih x1 x2 v9 v10 r q h
def wb_X11_makeVersion_123 (rec : Int32 → Int32 → Int32 → Int32 → (Nat → Int32) → (Nat → Nat → Int32) → Prop) (K170 : Int32 → Int32 → Int32 → (Nat → Int32) → (Nat → Nat → Int32) → Prop) (P : Int32 → RST → Prop) (x1 : Int32) (x2 : Int32) (x4 : Int32) (x5 : Int32) (r : Nat → Int32) (q : Nat → Nat → Int32) : Prop := (510 ≤ x5 → (K170 x1 x2 x4 r q)) ∧ (¬ 510 ≤ x5 → ((0 ≤ x2 → (vp_in ((274 + 510 * x2) + x5) 3334 ∧ (vp_in ((274 + 510 * x4) + x5) 3334 ∧ (∀ q30 : Nat → Nat → Int32, q30 = va_up q 0 (upd (q 0) (Int32.toNatClampNeg ((274 + 510 * x4) + x5)) (q 0 (Int32.toNatClampNeg ((274 + 510 * x2) + x5)))) → (∀ v31 : Int32, v31 = x5 + 1 → (rec x1 x2 x4 v31 r q30)))))) ∧ (¬ 0 ≤ x2 → (vp_in ((274 + 510 * x4) + x5) 3334 ∧ (∀ q33 : Nat → Nat → Int32, q33 = va_up q 0 (upd (q 0) (Int32.toNatClampNeg ((274 + 510 * x4) + x5)) 0) → (∀ v34 : Int32, v34 = x5 + 1 → (rec x1 x2 x4 v34 r q33)))))))
def wp_X11_makeVersion_123 (K170 : Int32 → Int32 → Int32 → (Nat → Int32) → (Nat → Nat → Int32) → Prop) (P : Int32 → RST → Prop) : Nat → Int32 → Int32 → Int32 → Int32 → (Nat → Int32) → (Nat → Nat → Int32) → Prop
  | 0 => fun _ _ _ _ _ _ => False
  | n + 1 => fun x1 x2 x4 x5 r q => wb_X11_makeVersion_123 (wp_X11_makeVersion_123 K170 P n) K170 P x1 x2 x4 x5 r q
set_option maxRecDepth 100000 in
set_option maxHeartbeats 4000000 in
theorem t_X11_makeVersion_123 {p : Program} {l : Launch} {e : Env} {s : State} {m : MethodId} {args : Array Value} {below : List Frame} {meth : Method} {c : Code} {D : va_G} {A : Nat → Prop} {T : Nat → ClassId} {m0 : Nat} {a : Nat → Nat} (C : GC p s m args meth c cX11_makeVersion "FreightRaterModel" (ws_X11_makeVersion) 6 D A (zty T)) (hr : meth.sig.returnType = (some .int)) (K170 : Int32 → Int32 → Int32 → (Nat → Int32) → (Nat → Nat → Int32) → Prop) (P : Int32 → RST → Prop) (hK170 : ∀ (x1 : Int32) (x2 : Int32) (x4 : Int32) (r : Nat → Int32) (q : Nat → Nat → Int32), K170 x1 x2 x4 r q → GW p l e rm_X11_makeVersion s m args below meth c D A 6 0 0 (MQ below (va_Qi P (RE D T m0 a A) A) args s 0 0 A) (RW m0 a T r q) 0 0 170 [(0, .ref m0), (1, .int x1), (2, .int x2), (4, .int x4)] []) : ∀ (n : Nat) (x1 : Int32) (x2 : Int32) (x4 : Int32) (x5 : Int32) (r : Nat → Int32) (q : Nat → Nat → Int32), wp_X11_makeVersion_123 K170 P n x1 x2 x4 x5 r q → GW p l e rm_X11_makeVersion s m args below meth c D A 6 0 0 (MQ below (va_Qi P (RE D T m0 a A) A) args s 0 0 A) (RW m0 a T r q) 0 0 123 [(0, .ref m0), (1, .int x1), (2, .int x2), (4, .int x4), (5, .int x5)] [] := by
  have hw : ∀ {w : Cond}, w ∈ W0 → w.before args s = true := fun h => C.2.2.2.2.1 _ (List.mem_cons_of_mem _ h)
  intro n
  induction n with
  | zero => intro x1 x2 x4 x5 r q h; exact h.elim
  | succ n ih =>
    intro x1 x2 x4 x5 r q h
    replace h : wb_X11_makeVersion_123 (wp_X11_makeVersion_123 K170 P n) K170 P x1 x2 x4 x5 r q := h
    unfold wb_X11_makeVersion_123 at h
    refine g_iload C dX11_makeVersion_123 4 rfl ?_
    refine g_sipush (v := 510) C dX11_makeVersion_125 (by decide) ?_
    refine g_icmp_ge (tgt := 170) C dX11_makeVersion_128 (by decide) (fun z26 => ?_) (fun z26 => ?_)
    · replace h := h.1 z26
      refine g_locals [0, 1, 2, 3] rfl ?_
      exact hK170 x1 x2 x4 r q h
    · replace h := h.2 z26
      refine g_aload_n C dX11_makeVersion_131 rfl 0 rfl ?_
      refine gr_get C iwx_X11 0 (hw kw_1809) (by decide) rfl rfl dX11_makeVersion_132 ?_
      refine g_iload C dX11_makeVersion_135 3 rfl ?_
      refine gr_callSf C [.int x4] rfl (k_X11_at l D T m0 a x4 r q) (w0_S 1 C.2.2.2.2.1 kw_1947 kw_1948 kw_9 kw_1949 rfl rfl (by decide +kernel) ⟨by decide, by decide⟩) rfl (Nat.le_of_ble_eq_true rfl) (Nat.zero_le _) (Nat.zero_le _) dX11_makeVersion_137 ?_
      refine g_iload C dX11_makeVersion_140 4 rfl ?_
      refine g_iadd C dX11_makeVersion_142 ?_
      refine g_iload_n C dX11_makeVersion_143 rfl 2 rfl ?_
      refine g_if_ge (tgt := 151) C dX11_makeVersion_144 (by decide) (fun z27 => ?_) (fun z27 => ?_)
      · replace h := h.1 z27
        refine g_aload_n C dX11_makeVersion_151 rfl 0 rfl ?_
        refine gr_get C iwx_X11 0 (hw kw_1809) (by decide) rfl rfl dX11_makeVersion_152 ?_
        refine g_iload_n C dX11_makeVersion_155 rfl 2 rfl ?_
        refine gr_callSf C [.int x2] rfl (k_X11_at l D T m0 a x2 r q) (w0_S 1 C.2.2.2.2.1 kw_1947 kw_1948 kw_9 kw_1949 rfl rfl (by decide +kernel) ⟨by decide, by decide⟩) rfl (Nat.le_of_ble_eq_true rfl) (Nat.zero_le _) (Nat.zero_le _) dX11_makeVersion_156 ?_
        refine g_iload C dX11_makeVersion_159 4 rfl ?_
        refine g_iadd C dX11_makeVersion_161 ?_
        obtain ⟨g28, h⟩ := h
        refine gr_ald_0 C g28 dX11_makeVersion_162 ?_
        obtain ⟨g29, h⟩ := h
        refine gr_ast_0 C g29 dX11_makeVersion_163 ?_
        refine gr_nq (fun q30 eq30 => ?_)
        replace h := h q30 eq30
        obtain ⟨v31, ev31⟩ : ∃ y : Int32, y = x5 + 1 := ⟨_, rfl⟩
        replace h := h v31 ev31
        refine g_iinc (v := v31) (lv' := [(5, .int v31), (0, .ref m0), (1, .int x1), (2, .int x2), (4, .int x4)]) C dX11_makeVersion_164 (j := 4) rfl (by rw [ev31]; rfl) (by decide) rfl ?_
        refine g_goto (tgt := 123) C dX11_makeVersion_167 (by decide) ?_
        refine g_locals [1, 2, 3, 4, 0] rfl ?_
        exact ih x1 x2 x4 v31 r q30 h
      · replace h := h.2 z27
        refine g_iconst (v := 0) C dX11_makeVersion_147 (by decide) ?_
        refine g_goto (tgt := 163) C dX11_makeVersion_148 (by decide) ?_
        obtain ⟨g32, h⟩ := h
        refine gr_ast_0 C g32 dX11_makeVersion_163 ?_
        refine gr_nq (fun q33 eq33 => ?_)
        replace h := h q33 eq33
        obtain ⟨v34, ev34⟩ : ∃ y : Int32, y = x5 + 1 := ⟨_, rfl⟩
        replace h := h v34 ev34
        refine g_iinc (v := v34) (lv' := [(5, .int v34), (0, .ref m0), (1, .int x1), (2, .int x2), (4, .int x4)]) C dX11_makeVersion_164 (j := 4) rfl (by rw [ev34]; rfl) (by decide) rfl ?_
        refine g_goto (tgt := 123) C dX11_makeVersion_167 (by decide) ?_
        refine g_locals [1, 2, 3, 4, 0] rfl ?_
        exact ih x1 x2 x4 v34 r q33 h
def wp_X11_makeVersion (P : Int32 → RST → Prop) (p0 : Int32) (p1 : Int32) (r : Nat → Int32) (q : Nat → Nat → Int32) : Prop := ∀ r1 : Nat → Int32, r1 = va_up r 6 0 → (∀ v2 : Int32, v2 = (zin p0 0 999) → (∃ k98 : Nat, wp_X11_makeVersion_17 (fun (y11 : Int32) (y12 : Int32) (y13 : Int32) (r14 : Nat → Int32) (q15 : Nat → Nat → Int32) => (¬ y13 = 0 → ((y12 = (-1) → (vp_in 0 3334 ∧ ((¬ (q15 0 (Int32.toNatClampNeg 0)) = 6 → ((CW8 r14) ∧ (∀ (r21 : Nat → Int32) (q22 : Nat → Nat → Int32), (kR r14 r21 [5] ∧ kQ q15 q22 [3] ∧ psh (q15 3) (q22 3) (q15 0) (r14 5) (r21 5)) → (vp_in 0 3334 ∧ (∀ v25 : Int32, v25 = (q22 0 (Int32.toNatClampNeg 0)) → (∃ k55 : Nat, wp_X11_makeVersion_123 (fun (y35 : Int32) (y36 : Int32) (y37 : Int32) (r38 : Nat → Int32) (q39 : Nat → Nat → Int32) => (0 ≤ y36 → (vp_in ((274 + 510 * y37) + 0) 3334 ∧ (∀ q42 : Nat → Nat → Int32, q42 = va_up q39 0 (upd (q39 0) (Int32.toNatClampNeg ((274 + 510 * y37) + 0)) y35) → (vp_in 0 3334 ∧ (vp_in 0 3334 ∧ (∀ q45 : Nat → Nat → Int32, q45 = va_up q42 0 (upd (q42 0) (Int32.toNatClampNeg 0) ((q42 0 (Int32.toNatClampNeg 0)) + 1)) → (P y37 (r38, q45)))))))) ∧ (¬ 0 ≤ y36 → (vp_in ((274 + 510 * y37) + 146) 3334 ∧ (∀ q47 : Nat → Nat → Int32, q47 = va_up q39 0 (upd (q39 0) (Int32.toNatClampNeg ((274 + 510 * y37) + 146)) 5000) → (vp_in ((274 + 510 * y37) + 149) 3334 ∧ (∀ q49 : Nat → Nat → Int32, q49 = va_up q47 0 (upd (q47 0) (Int32.toNatClampNeg ((274 + 510 * y37) + 149)) 999) → (vp_in ((274 + 510 * y37) + 0) 3334 ∧ (∀ q51 : Nat → Nat → Int32, q51 = va_up q49 0 (upd (q49 0) (Int32.toNatClampNeg ((274 + 510 * y37) + 0)) y35) → (vp_in 0 3334 ∧ (vp_in 0 3334 ∧ (∀ q54 : Nat → Nat → Int32, q54 = va_up q51 0 (upd (q51 0) (Int32.toNatClampNeg 0) ((q51 0 (Int32.toNatClampNeg 0)) + 1)) → (P y37 (r38, q54))))))))))))) P k55 y11 y12 v25 0 r21 q22)))))) ∧ ((q15 0 (Int32.toNatClampNeg 0)) = 6 → (∀ (v56 : Int32) (r57 : Nat → Int32) (q58 : Nat → Nat → Int32), (v56 = 0 ∧ r57 = va_up r14 6 3 ∧ q58 = q15) → (P v56 (r57, q58))))))) ∧ (¬ y12 = (-1) → ((¬ (zin y12 0 (q15 0 0 - 1)) = 0 → (vp_in 0 3334 ∧ ((¬ (q15 0 (Int32.toNatClampNeg 0)) = 6 → ((CW8 r14) ∧ (∀ (r63 : Nat → Int32) (q64 : Nat → Nat → Int32), (kR r14 r63 [5] ∧ kQ q15 q64 [3] ∧ psh (q15 3) (q64 3) (q15 0) (r14 5) (r63 5)) → (vp_in 0 3334 ∧ (∀ v67 : Int32, v67 = (q64 0 (Int32.toNatClampNeg 0)) → (∃ k88 : Nat, wp_X11_makeVersion_123 (fun (y68 : Int32) (y69 : Int32) (y70 : Int32) (r71 : Nat → Int32) (q72 : Nat → Nat → Int32) => (0 ≤ y69 → (vp_in ((274 + 510 * y70) + 0) 3334 ∧ (∀ q75 : Nat → Nat → Int32, q75 = va_up q72 0 (upd (q72 0) (Int32.toNatClampNeg ((274 + 510 * y70) + 0)) y68) → (vp_in 0 3334 ∧ (vp_in 0 3334 ∧ (∀ q78 : Nat → Nat → Int32, q78 = va_up q75 0 (upd (q75 0) (Int32.toNatClampNeg 0) ((q75 0 (Int32.toNatClampNeg 0)) + 1)) → (P y70 (r71, q78)))))))) ∧ (¬ 0 ≤ y69 → (vp_in ((274 + 510 * y70) + 146) 3334 ∧ (∀ q80 : Nat → Nat → Int32, q80 = va_up q72 0 (upd (q72 0) (Int32.toNatClampNeg ((274 + 510 * y70) + 146)) 5000) → (vp_in ((274 + 510 * y70) + 149) 3334 ∧ (∀ q82 : Nat → Nat → Int32, q82 = va_up q80 0 (upd (q80 0) (Int32.toNatClampNeg ((274 + 510 * y70) + 149)) 999) → (vp_in ((274 + 510 * y70) + 0) 3334 ∧ (∀ q84 : Nat → Nat → Int32, q84 = va_up q82 0 (upd (q82 0) (Int32.toNatClampNeg ((274 + 510 * y70) + 0)) y68) → (vp_in 0 3334 ∧ (vp_in 0 3334 ∧ (∀ q87 : Nat → Nat → Int32, q87 = va_up q84 0 (upd (q84 0) (Int32.toNatClampNeg 0) ((q84 0 (Int32.toNatClampNeg 0)) + 1)) → (P y70 (r71, q87))))))))))))) P k88 y11 y12 v67 0 r63 q64)))))) ∧ ((q15 0 (Int32.toNatClampNeg 0)) = 6 → (∀ (v89 : Int32) (r90 : Nat → Int32) (q91 : Nat → Nat → Int32), (v89 = 0 ∧ r90 = va_up r14 6 3 ∧ q91 = q15) → (P v89 (r90, q91))))))) ∧ ((zin y12 0 (q15 0 0 - 1)) = 0 → (∀ (v92 : Int32) (r93 : Nat → Int32) (q94 : Nat → Nat → Int32), (v92 = 0 ∧ r93 = va_up r14 6 2 ∧ q94 = q15) → (P v92 (r93, q94)))))))) ∧ (y13 = 0 → (∀ (v95 : Int32) (r96 : Nat → Int32) (q97 : Nat → Nat → Int32), (v95 = 0 ∧ r96 = va_up r14 6 1 ∧ q97 = q15) → (P v95 (r96, q97))))) P k98 p0 p1 v2 0 r1 q))
set_option maxRecDepth 100000 in
set_option maxHeartbeats 4000000 in
theorem t_X11_makeVersion {p : Program} {l : Launch} {e : Env} {s : State} {m : MethodId} {args : Array Value} {below : List Frame} {meth : Method} {c : Code} {D : va_G} {A : Nat → Prop} {T : Nat → ClassId} {m0 : Nat} {a : Nat → Nat} (C : GC p s m args meth c cX11_makeVersion "FreightRaterModel" (ws_X11_makeVersion) 6 D A (zty T)) (hr : meth.sig.returnType = (some .int)) (P : Int32 → RST → Prop) : ∀ (p0 : Int32) (p1 : Int32) (r : Nat → Int32) (q : Nat → Nat → Int32), wp_X11_makeVersion P p0 p1 r q → GW p l e rm_X11_makeVersion s m args below meth c D A 6 0 0 (MQ below (va_Qi P (RE D T m0 a A) A) args s 0 0 A) (RW m0 a T r q) 0 0 0 [(0, .ref m0), (1, .int p0), (2, .int p1)] [] := by
  have hw : ∀ {w : Cond}, w ∈ W0 → w.before args s = true := fun h => C.2.2.2.2.1 _ (List.mem_cons_of_mem _ h)
  intro p0 p1 r q h
  unfold wp_X11_makeVersion at h
  refine g_aload_n C dX11_makeVersion_0 rfl 0 rfl ?_
  refine g_iconst (v := 0) C dX11_makeVersion_1 (by decide) ?_
  refine gr_put_6 C iwx_X11 (hw kw_1815) dX11_makeVersion_2 ?_
  refine gr_nr (fun r1 er1 => ?_)
  replace h := h r1 er1
  refine g_iload_n C dX11_makeVersion_5 rfl 1 rfl ?_
  refine g_iconst (v := 0) C dX11_makeVersion_6 (by decide) ?_
  refine g_sipush (v := 999) C dX11_makeVersion_7 (by decide) ?_
  refine gr_callSf C [.int p0, .int 0, .int 999] rfl (k_X11_in l D T m0 a p0 0 999 r1 q) (w0_S 3 C.2.2.2.2.1 kw_1944 kw_1945 kw_9 kw_1946 rfl rfl (by decide +kernel) ⟨by decide, by decide⟩) rfl (Nat.le_of_ble_eq_true rfl) (Nat.zero_le _) (Nat.zero_le _) dX11_makeVersion_10 ?_
  refine g_topi (fun v2 ev2 => ?_)
  replace h := h v2 ev2
  refine g_istore_n (lv' := [(3, .int v2), (0, .ref m0), (1, .int p0), (2, .int p1)]) C dX11_makeVersion_13 rfl (by decide) rfl ?_
  refine g_iconst (v := 0) C dX11_makeVersion_14 (by decide) ?_
  refine g_istore (lv' := [(4, .int 0), (3, .int v2), (0, .ref m0), (1, .int p0), (2, .int p1)]) C dX11_makeVersion_15 (by decide) rfl ?_
  refine g_locals [2, 3, 4, 1, 0] rfl ?_
  obtain ⟨k98, h⟩ := h
  refine t_X11_makeVersion_17 C hr _ P ?_ k98 p0 p1 v2 0 r1 q h
  · intro y11 y12 y13 r14 q15 h
    refine g_iload_n C dX11_makeVersion_58 rfl 3 rfl ?_
    refine g_if_ne (tgt := 68) C dX11_makeVersion_59 (by decide) (fun z16 => ?_) (fun z16 => ?_)
    · replace h := h.1 z16
      refine g_iload_n C dX11_makeVersion_68 rfl 2 rfl ?_
      refine g_iconst (v := -1) C dX11_makeVersion_69 (by decide) ?_
      refine g_icmp_eq (tgt := 87) C dX11_makeVersion_70 (by decide) (fun z17 => ?_) (fun z17 => ?_)
      · replace h := h.1 z17
        refine g_aload_n C dX11_makeVersion_87 rfl 0 rfl ?_
        refine gr_get C iwx_X11 0 (hw kw_1809) (by decide) rfl rfl dX11_makeVersion_88 ?_
        refine g_iconst (v := 0) C dX11_makeVersion_91 (by decide) ?_
        obtain ⟨g18, h⟩ := h
        refine gr_ald_0 C g18 dX11_makeVersion_92 ?_
        refine g_bipush (v := 6) C dX11_makeVersion_93 (by decide) ?_
        refine g_icmp_ne (tgt := 104) C dX11_makeVersion_95 (by decide) (fun z19 => ?_) (fun z19 => ?_)
        · replace h := h.1 z19
          refine g_aload_n C dX11_makeVersion_104 rfl 0 rfl ?_
          refine g_aload_n C dX11_makeVersion_105 rfl 0 rfl ?_
          refine gr_get C iwx_X11 0 (hw kw_1809) (by decide) rfl rfl dX11_makeVersion_106 ?_
          obtain ⟨g23, h⟩ := h
          refine gr_callvV C [.ref (a 0)] rfl (k_X11_keepAs_0 l D T m0 a  r14 q15 g23) (w0_V 1 C.2.2.2.2.1 kw_1958 kw_1960 ks_52 kw_9 kw_1961 rfl rfl (by decide +kernel) ⟨by decide, by decide⟩) rfl (Nat.le_of_ble_eq_true rfl) (Nat.zero_le _) (Nat.zero_le _) dX11_makeVersion_109 (fun r21 q22 hp => ?_)
          replace h := h r21 q22 hp
          refine g_aload_n C dX11_makeVersion_112 rfl 0 rfl ?_
          refine gr_get C iwx_X11 0 (hw kw_1809) (by decide) rfl rfl dX11_makeVersion_113 ?_
          refine g_iconst (v := 0) C dX11_makeVersion_116 (by decide) ?_
          obtain ⟨g24, h⟩ := h
          refine gr_ald_0 C g24 dX11_makeVersion_117 ?_
          refine g_topi (fun v25 ev25 => ?_)
          replace h := h v25 ev25
          refine g_istore (lv' := [(4, .int v25), (0, .ref m0), (1, .int y11), (2, .int y12), (3, .int y13)]) C dX11_makeVersion_118 (by decide) rfl ?_
          refine g_iconst (v := 0) C dX11_makeVersion_120 (by decide) ?_
          refine g_istore (lv' := [(5, .int 0), (4, .int v25), (0, .ref m0), (1, .int y11), (2, .int y12), (3, .int y13)]) C dX11_makeVersion_121 (by decide) rfl ?_
          refine g_locals [2, 3, 4, 1, 0] rfl ?_
          obtain ⟨k55, h⟩ := h
          refine t_X11_makeVersion_123 C hr _ P ?_ k55 y11 y12 v25 0 r21 q22 h
          · intro y35 y36 y37 r38 q39 h
            refine g_iload_n C dX11_makeVersion_170 rfl 2 rfl ?_
            refine g_if_ge (tgt := 208) C dX11_makeVersion_171 (by decide) (fun z40 => ?_) (fun z40 => ?_)
            · replace h := h.1 z40
              refine g_aload_n C dX11_makeVersion_208 rfl 0 rfl ?_
              refine gr_get C iwx_X11 0 (hw kw_1809) (by decide) rfl rfl dX11_makeVersion_209 ?_
              refine g_iload C dX11_makeVersion_212 3 rfl ?_
              refine gr_callSf C [.int y37] rfl (k_X11_at l D T m0 a y37 r38 q39) (w0_S 1 C.2.2.2.2.1 kw_1947 kw_1948 kw_9 kw_1949 rfl rfl (by decide +kernel) ⟨by decide, by decide⟩) rfl (Nat.le_of_ble_eq_true rfl) (Nat.zero_le _) (Nat.zero_le _) dX11_makeVersion_214 ?_
              refine g_iconst (v := 0) C dX11_makeVersion_217 (by decide) ?_
              refine g_iadd C dX11_makeVersion_218 ?_
              refine g_iload_n C dX11_makeVersion_219 rfl 1 rfl ?_
              obtain ⟨g41, h⟩ := h
              refine gr_ast_0 C g41 dX11_makeVersion_220 ?_
              refine gr_nq (fun q42 eq42 => ?_)
              replace h := h q42 eq42
              refine g_aload_n C dX11_makeVersion_221 rfl 0 rfl ?_
              refine gr_get C iwx_X11 0 (hw kw_1809) (by decide) rfl rfl dX11_makeVersion_222 ?_
              refine g_iconst (v := 0) C dX11_makeVersion_225 (by decide) ?_
              refine g_dup2 C dX11_makeVersion_226 rfl rfl ?_
              obtain ⟨g43, h⟩ := h
              refine gr_ald_0 C g43 dX11_makeVersion_227 ?_
              refine g_iconst (v := 1) C dX11_makeVersion_228 (by decide) ?_
              refine g_iadd C dX11_makeVersion_229 ?_
              obtain ⟨g44, h⟩ := h
              refine gr_ast_0 C g44 dX11_makeVersion_230 ?_
              refine gr_nq (fun q45 eq45 => ?_)
              replace h := h q45 eq45
              refine g_iload C dX11_makeVersion_231 3 rfl ?_
              exact gr_iret C hr dX11_makeVersion_233 h
            · replace h := h.2 z40
              refine g_aload_n C dX11_makeVersion_174 rfl 0 rfl ?_
              refine gr_get C iwx_X11 0 (hw kw_1809) (by decide) rfl rfl dX11_makeVersion_175 ?_
              refine g_iload C dX11_makeVersion_178 3 rfl ?_
              refine gr_callSf C [.int y37] rfl (k_X11_at l D T m0 a y37 r38 q39) (w0_S 1 C.2.2.2.2.1 kw_1947 kw_1948 kw_9 kw_1949 rfl rfl (by decide +kernel) ⟨by decide, by decide⟩) rfl (Nat.le_of_ble_eq_true rfl) (Nat.zero_le _) (Nat.zero_le _) dX11_makeVersion_180 ?_
              refine g_sipush (v := 146) C dX11_makeVersion_183 (by decide) ?_
              refine g_iadd C dX11_makeVersion_186 ?_
              refine g_sipush (v := 5000) C dX11_makeVersion_187 (by decide) ?_
              obtain ⟨g46, h⟩ := h
              refine gr_ast_0 C g46 dX11_makeVersion_190 ?_
              refine gr_nq (fun q47 eq47 => ?_)
              replace h := h q47 eq47
              refine g_aload_n C dX11_makeVersion_191 rfl 0 rfl ?_
              refine gr_get C iwx_X11 0 (hw kw_1809) (by decide) rfl rfl dX11_makeVersion_192 ?_
              refine g_iload C dX11_makeVersion_195 3 rfl ?_
              refine gr_callSf C [.int y37] rfl (k_X11_at l D T m0 a y37 r38 q47) (w0_S 1 C.2.2.2.2.1 kw_1947 kw_1948 kw_9 kw_1949 rfl rfl (by decide +kernel) ⟨by decide, by decide⟩) rfl (Nat.le_of_ble_eq_true rfl) (Nat.zero_le _) (Nat.zero_le _) dX11_makeVersion_197 ?_
              refine g_sipush (v := 149) C dX11_makeVersion_200 (by decide) ?_
              refine g_iadd C dX11_makeVersion_203 ?_
              refine g_sipush (v := 999) C dX11_makeVersion_204 (by decide) ?_
              obtain ⟨g48, h⟩ := h
              refine gr_ast_0 C g48 dX11_makeVersion_207 ?_
              refine gr_nq (fun q49 eq49 => ?_)
              replace h := h q49 eq49
              refine g_aload_n C dX11_makeVersion_208 rfl 0 rfl ?_
              refine gr_get C iwx_X11 0 (hw kw_1809) (by decide) rfl rfl dX11_makeVersion_209 ?_
              refine g_iload C dX11_makeVersion_212 3 rfl ?_
              refine gr_callSf C [.int y37] rfl (k_X11_at l D T m0 a y37 r38 q49) (w0_S 1 C.2.2.2.2.1 kw_1947 kw_1948 kw_9 kw_1949 rfl rfl (by decide +kernel) ⟨by decide, by decide⟩) rfl (Nat.le_of_ble_eq_true rfl) (Nat.zero_le _) (Nat.zero_le _) dX11_makeVersion_214 ?_
              refine g_iconst (v := 0) C dX11_makeVersion_217 (by decide) ?_
              refine g_iadd C dX11_makeVersion_218 ?_
              refine g_iload_n C dX11_makeVersion_219 rfl 1 rfl ?_
              obtain ⟨g50, h⟩ := h
              refine gr_ast_0 C g50 dX11_makeVersion_220 ?_
              refine gr_nq (fun q51 eq51 => ?_)
              replace h := h q51 eq51
              refine g_aload_n C dX11_makeVersion_221 rfl 0 rfl ?_
              refine gr_get C iwx_X11 0 (hw kw_1809) (by decide) rfl rfl dX11_makeVersion_222 ?_
              refine g_iconst (v := 0) C dX11_makeVersion_225 (by decide) ?_
              refine g_dup2 C dX11_makeVersion_226 rfl rfl ?_
              obtain ⟨g52, h⟩ := h
              refine gr_ald_0 C g52 dX11_makeVersion_227 ?_
              refine g_iconst (v := 1) C dX11_makeVersion_228 (by decide) ?_
              refine g_iadd C dX11_makeVersion_229 ?_
              obtain ⟨g53, h⟩ := h
              refine gr_ast_0 C g53 dX11_makeVersion_230 ?_
              refine gr_nq (fun q54 eq54 => ?_)
              replace h := h q54 eq54
              refine g_iload C dX11_makeVersion_231 3 rfl ?_
              exact gr_iret C hr dX11_makeVersion_233 h
        · replace h := h.2 z19
          refine g_aload_n C dX11_makeVersion_98 rfl 0 rfl ?_
          refine g_iconst (v := 3) C dX11_makeVersion_99 (by decide) ?_
          refine gr_calliV C [.int 3] rfl (k_X11_refuse l D T m0 a 3 r14 q15) (w0_V 1 C.2.2.2.2.1 kw_1950 kw_1952 ks_50 kw_9 kw_1953 rfl rfl (by decide +kernel) ⟨by decide, by decide⟩) rfl (Nat.le_of_ble_eq_true rfl) (Nat.zero_le _) (Nat.zero_le _) dX11_makeVersion_100 (fun v56 r57 q58 hp => ?_)
          replace h := h v56 r57 q58 hp
          exact gr_iret C hr dX11_makeVersion_103 h
      · replace h := h.2 z17
        refine g_aload_n C dX11_makeVersion_73 rfl 0 rfl ?_
        refine g_iload_n C dX11_makeVersion_74 rfl 2 rfl ?_
        refine gr_callVf C [.int y12] rfl (k_X11_isVersion l D T m0 a y12 r14 q15) (w0_V 1 C.2.2.2.2.1 kw_1954 kw_1956 ks_51 kw_9 kw_1957 rfl rfl (by decide +kernel) ⟨by decide, by decide⟩) rfl (Nat.le_of_ble_eq_true rfl) (Nat.zero_le _) (Nat.zero_le _) dX11_makeVersion_75 ?_
        refine g_if_ne (tgt := 87) C dX11_makeVersion_78 (by decide) (fun z59 => ?_) (fun z59 => ?_)
        · replace h := h.1 z59
          refine g_aload_n C dX11_makeVersion_87 rfl 0 rfl ?_
          refine gr_get C iwx_X11 0 (hw kw_1809) (by decide) rfl rfl dX11_makeVersion_88 ?_
          refine g_iconst (v := 0) C dX11_makeVersion_91 (by decide) ?_
          obtain ⟨g60, h⟩ := h
          refine gr_ald_0 C g60 dX11_makeVersion_92 ?_
          refine g_bipush (v := 6) C dX11_makeVersion_93 (by decide) ?_
          refine g_icmp_ne (tgt := 104) C dX11_makeVersion_95 (by decide) (fun z61 => ?_) (fun z61 => ?_)
          · replace h := h.1 z61
            refine g_aload_n C dX11_makeVersion_104 rfl 0 rfl ?_
            refine g_aload_n C dX11_makeVersion_105 rfl 0 rfl ?_
            refine gr_get C iwx_X11 0 (hw kw_1809) (by decide) rfl rfl dX11_makeVersion_106 ?_
            obtain ⟨g65, h⟩ := h
            refine gr_callvV C [.ref (a 0)] rfl (k_X11_keepAs_0 l D T m0 a  r14 q15 g65) (w0_V 1 C.2.2.2.2.1 kw_1958 kw_1960 ks_52 kw_9 kw_1961 rfl rfl (by decide +kernel) ⟨by decide, by decide⟩) rfl (Nat.le_of_ble_eq_true rfl) (Nat.zero_le _) (Nat.zero_le _) dX11_makeVersion_109 (fun r63 q64 hp => ?_)
            replace h := h r63 q64 hp
            refine g_aload_n C dX11_makeVersion_112 rfl 0 rfl ?_
            refine gr_get C iwx_X11 0 (hw kw_1809) (by decide) rfl rfl dX11_makeVersion_113 ?_
            refine g_iconst (v := 0) C dX11_makeVersion_116 (by decide) ?_
            obtain ⟨g66, h⟩ := h
            refine gr_ald_0 C g66 dX11_makeVersion_117 ?_
            refine g_topi (fun v67 ev67 => ?_)
            replace h := h v67 ev67
            refine g_istore (lv' := [(4, .int v67), (0, .ref m0), (1, .int y11), (2, .int y12), (3, .int y13)]) C dX11_makeVersion_118 (by decide) rfl ?_
            refine g_iconst (v := 0) C dX11_makeVersion_120 (by decide) ?_
            refine g_istore (lv' := [(5, .int 0), (4, .int v67), (0, .ref m0), (1, .int y11), (2, .int y12), (3, .int y13)]) C dX11_makeVersion_121 (by decide) rfl ?_
            refine g_locals [2, 3, 4, 1, 0] rfl ?_
            obtain ⟨k88, h⟩ := h
            refine t_X11_makeVersion_123 C hr _ P ?_ k88 y11 y12 v67 0 r63 q64 h
            · intro y68 y69 y70 r71 q72 h
              refine g_iload_n C dX11_makeVersion_170 rfl 2 rfl ?_
              refine g_if_ge (tgt := 208) C dX11_makeVersion_171 (by decide) (fun z73 => ?_) (fun z73 => ?_)
              · replace h := h.1 z73
                refine g_aload_n C dX11_makeVersion_208 rfl 0 rfl ?_
                refine gr_get C iwx_X11 0 (hw kw_1809) (by decide) rfl rfl dX11_makeVersion_209 ?_
                refine g_iload C dX11_makeVersion_212 3 rfl ?_
                refine gr_callSf C [.int y70] rfl (k_X11_at l D T m0 a y70 r71 q72) (w0_S 1 C.2.2.2.2.1 kw_1947 kw_1948 kw_9 kw_1949 rfl rfl (by decide +kernel) ⟨by decide, by decide⟩) rfl (Nat.le_of_ble_eq_true rfl) (Nat.zero_le _) (Nat.zero_le _) dX11_makeVersion_214 ?_
                refine g_iconst (v := 0) C dX11_makeVersion_217 (by decide) ?_
                refine g_iadd C dX11_makeVersion_218 ?_
                refine g_iload_n C dX11_makeVersion_219 rfl 1 rfl ?_
                obtain ⟨g74, h⟩ := h
                refine gr_ast_0 C g74 dX11_makeVersion_220 ?_
                refine gr_nq (fun q75 eq75 => ?_)
                replace h := h q75 eq75
                refine g_aload_n C dX11_makeVersion_221 rfl 0 rfl ?_
                refine gr_get C iwx_X11 0 (hw kw_1809) (by decide) rfl rfl dX11_makeVersion_222 ?_
                refine g_iconst (v := 0) C dX11_makeVersion_225 (by decide) ?_
                refine g_dup2 C dX11_makeVersion_226 rfl rfl ?_
                obtain ⟨g76, h⟩ := h
                refine gr_ald_0 C g76 dX11_makeVersion_227 ?_
                refine g_iconst (v := 1) C dX11_makeVersion_228 (by decide) ?_
                refine g_iadd C dX11_makeVersion_229 ?_
                obtain ⟨g77, h⟩ := h
                refine gr_ast_0 C g77 dX11_makeVersion_230 ?_
                refine gr_nq (fun q78 eq78 => ?_)
                replace h := h q78 eq78
                refine g_iload C dX11_makeVersion_231 3 rfl ?_
                exact gr_iret C hr dX11_makeVersion_233 h
              · replace h := h.2 z73
                refine g_aload_n C dX11_makeVersion_174 rfl 0 rfl ?_
                refine gr_get C iwx_X11 0 (hw kw_1809) (by decide) rfl rfl dX11_makeVersion_175 ?_
                refine g_iload C dX11_makeVersion_178 3 rfl ?_
                refine gr_callSf C [.int y70] rfl (k_X11_at l D T m0 a y70 r71 q72) (w0_S 1 C.2.2.2.2.1 kw_1947 kw_1948 kw_9 kw_1949 rfl rfl (by decide +kernel) ⟨by decide, by decide⟩) rfl (Nat.le_of_ble_eq_true rfl) (Nat.zero_le _) (Nat.zero_le _) dX11_makeVersion_180 ?_
                refine g_sipush (v := 146) C dX11_makeVersion_183 (by decide) ?_
                refine g_iadd C dX11_makeVersion_186 ?_
                refine g_sipush (v := 5000) C dX11_makeVersion_187 (by decide) ?_
                obtain ⟨g79, h⟩ := h
                refine gr_ast_0 C g79 dX11_makeVersion_190 ?_
                refine gr_nq (fun q80 eq80 => ?_)
                replace h := h q80 eq80
                refine g_aload_n C dX11_makeVersion_191 rfl 0 rfl ?_
                refine gr_get C iwx_X11 0 (hw kw_1809) (by decide) rfl rfl dX11_makeVersion_192 ?_
                refine g_iload C dX11_makeVersion_195 3 rfl ?_
                refine gr_callSf C [.int y70] rfl (k_X11_at l D T m0 a y70 r71 q80) (w0_S 1 C.2.2.2.2.1 kw_1947 kw_1948 kw_9 kw_1949 rfl rfl (by decide +kernel) ⟨by decide, by decide⟩) rfl (Nat.le_of_ble_eq_true rfl) (Nat.zero_le _) (Nat.zero_le _) dX11_makeVersion_197 ?_
                refine g_sipush (v := 149) C dX11_makeVersion_200 (by decide) ?_
                refine g_iadd C dX11_makeVersion_203 ?_
                refine g_sipush (v := 999) C dX11_makeVersion_204 (by decide) ?_
                obtain ⟨g81, h⟩ := h
                refine gr_ast_0 C g81 dX11_makeVersion_207 ?_
                refine gr_nq (fun q82 eq82 => ?_)
                replace h := h q82 eq82
                refine g_aload_n C dX11_makeVersion_208 rfl 0 rfl ?_
                refine gr_get C iwx_X11 0 (hw kw_1809) (by decide) rfl rfl dX11_makeVersion_209 ?_
                refine g_iload C dX11_makeVersion_212 3 rfl ?_
                refine gr_callSf C [.int y70] rfl (k_X11_at l D T m0 a y70 r71 q82) (w0_S 1 C.2.2.2.2.1 kw_1947 kw_1948 kw_9 kw_1949 rfl rfl (by decide +kernel) ⟨by decide, by decide⟩) rfl (Nat.le_of_ble_eq_true rfl) (Nat.zero_le _) (Nat.zero_le _) dX11_makeVersion_214 ?_
                refine g_iconst (v := 0) C dX11_makeVersion_217 (by decide) ?_
                refine g_iadd C dX11_makeVersion_218 ?_
                refine g_iload_n C dX11_makeVersion_219 rfl 1 rfl ?_
                obtain ⟨g83, h⟩ := h
                refine gr_ast_0 C g83 dX11_makeVersion_220 ?_
                refine gr_nq (fun q84 eq84 => ?_)
                replace h := h q84 eq84
                refine g_aload_n C dX11_makeVersion_221 rfl 0 rfl ?_
                refine gr_get C iwx_X11 0 (hw kw_1809) (by decide) rfl rfl dX11_makeVersion_222 ?_
                refine g_iconst (v := 0) C dX11_makeVersion_225 (by decide) ?_
                refine g_dup2 C dX11_makeVersion_226 rfl rfl ?_
                obtain ⟨g85, h⟩ := h
                refine gr_ald_0 C g85 dX11_makeVersion_227 ?_
                refine g_iconst (v := 1) C dX11_makeVersion_228 (by decide) ?_
                refine g_iadd C dX11_makeVersion_229 ?_
                obtain ⟨g86, h⟩ := h
                refine gr_ast_0 C g86 dX11_makeVersion_230 ?_
                refine gr_nq (fun q87 eq87 => ?_)
                replace h := h q87 eq87
                refine g_iload C dX11_makeVersion_231 3 rfl ?_
                exact gr_iret C hr dX11_makeVersion_233 h
          · replace h := h.2 z61
            refine g_aload_n C dX11_makeVersion_98 rfl 0 rfl ?_
            refine g_iconst (v := 3) C dX11_makeVersion_99 (by decide) ?_
            refine gr_calliV C [.int 3] rfl (k_X11_refuse l D T m0 a 3 r14 q15) (w0_V 1 C.2.2.2.2.1 kw_1950 kw_1952 ks_50 kw_9 kw_1953 rfl rfl (by decide +kernel) ⟨by decide, by decide⟩) rfl (Nat.le_of_ble_eq_true rfl) (Nat.zero_le _) (Nat.zero_le _) dX11_makeVersion_100 (fun v89 r90 q91 hp => ?_)
            replace h := h v89 r90 q91 hp
            exact gr_iret C hr dX11_makeVersion_103 h
        · replace h := h.2 z59
          refine g_aload_n C dX11_makeVersion_81 rfl 0 rfl ?_
          refine g_iconst (v := 2) C dX11_makeVersion_82 (by decide) ?_
          refine gr_calliV C [.int 2] rfl (k_X11_refuse l D T m0 a 2 r14 q15) (w0_V 1 C.2.2.2.2.1 kw_1950 kw_1952 ks_50 kw_9 kw_1953 rfl rfl (by decide +kernel) ⟨by decide, by decide⟩) rfl (Nat.le_of_ble_eq_true rfl) (Nat.zero_le _) (Nat.zero_le _) dX11_makeVersion_83 (fun v92 r93 q94 hp => ?_)
          replace h := h v92 r93 q94 hp
          exact gr_iret C hr dX11_makeVersion_86 h
    · replace h := h.2 z16
      refine g_aload_n C dX11_makeVersion_62 rfl 0 rfl ?_
      refine g_iconst (v := 1) C dX11_makeVersion_63 (by decide) ?_
      refine gr_calliV C [.int 1] rfl (k_X11_refuse l D T m0 a 1 r14 q15) (w0_V 1 C.2.2.2.2.1 kw_1950 kw_1952 ks_50 kw_9 kw_1953 rfl rfl (by decide +kernel) ⟨by decide, by decide⟩) rfl (Nat.le_of_ble_eq_true rfl) (Nat.zero_le _) (Nat.zero_le _) dX11_makeVersion_64 (fun v95 r96 q97 hp => ?_)
      replace h := h v95 r96 q97 hp
      exact gr_iret C hr dX11_makeVersion_67 h
theorem c_X11_makeVersion (l : Launch) (D : va_G) (T : Nat → ClassId) (m0 : Nat) (a : Nat → Nat) (p0 : Int32) (p1 : Int32) (r : Nat → Int32) (q : Nat → Nat → Int32) (P : Int32 → RST → Prop) (h : wp_X11_makeVersion P p0 p1 r q) : RMi l yX11_makeVersion (ws_X11_makeVersion) rm_X11_makeVersion D T m0 a [.ref m0, .int p0, .int p1] r q P := gr_meti (by decide) rfl rfl (Nat.le_of_ble_eq_true rfl) (fun p e s m args below meth c A C hr => t_X11_makeVersion C hr P p0 p1 r q h)
theorem rl_mk17 {K : Int32 → Int32 → Int32 → (Nat → Int32) → (Nat → Nat → Int32) → Prop} {P : Int32 → RST → Prop} {r : Nat → Int32} {q : Nat → Nat → Int32} {d f : Int32} {n : Nat} (hn : n ≤ 6) (hm : q 0 0 = nI n) : ∀ (k v fuel : Nat) (is : Bool), v + k = n → k < fuel → K d f (b2i (is && !(hdF' (q 0) d k v))) r q → wp_X11_makeVersion_17 K P fuel d f (b2i is) (nI v) r q := by
  intro k
  induction k with
  | zero =>
    intro v fuel is hv hf hk
    obtain ⟨f, rfl⟩ : ∃ f, fuel = f + 1 := ⟨fuel - 1, by omega⟩; rw [wp_X11_makeVersion_17]; unfold wb_X11_makeVersion_17; dsimp only
    rw [hdF', Bool.not_false, Bool.and_true] at hk
    simp (disch := omega) only [hm, li_2, li_3, li_4, li_5, li_6, li_7, li_8, li_9, li_10, li_12, li_14, li_20, li_26, li_30, li_31, li_36, li_38, li_47, li_48, li_50, li_57, li_58, li_80, li_98, li_99, li_100, li_102, li_104, li_105, li_108, li_109, li_110, li_114, li_115, li_119, li_122, li_137, li_146, li_147, li_148, li_149, li_150, li_200, li_255, li_256, li_274, li_510, li_512, li_640, li_999, li_1000, li_1024, li_3334, li_5000, li_9999, li_10000, li_23338, li_26672, li_30000, li_99999, li_150000, li_300000, pk_mul, nI_add, pk_sub, nI_clamp, nI_1, nI_p1, nI_a0, nI_0a, nI_m0, nI_m1, cl_0, cl_1, z01, z11, nI_leI, nI_ltI, nI_eq, nz_lt0, nz_le, nz_eq0, nz_pos, nz_le0, nz_eq1, nz_lt1, nz_ge1, nz_le1, nz_gt1, nz_vp, nz_vp0, nz_vp1, six_nI, vix_nI, bix_nI, pix_nI, fix_nI, gix_nI, rix_nI, zix_nI, pix_0, pix_1, bix_0, fix_0, fix_1, rix_1, true_and, and_true]
    exact ⟨by decide, fun _ => hk, fun h => absurd (by omega) h⟩
  | succ k ih =>
    intro v fuel is hv hf hk
    obtain ⟨f, rfl⟩ : ∃ f, fuel = f + 1 := ⟨fuel - 1, by omega⟩; rw [wp_X11_makeVersion_17]; unfold wb_X11_makeVersion_17; dsimp only
    rw [hdF'] at hk
    simp (disch := omega) only [hm, b2i_a1, b2i_a0, li_2, li_3, li_4, li_5, li_6, li_7, li_8, li_9, li_10, li_12, li_14, li_20, li_26, li_30, li_31, li_36, li_38, li_47, li_48, li_50, li_57, li_58, li_80, li_98, li_99, li_100, li_102, li_104, li_105, li_108, li_109, li_110, li_114, li_115, li_119, li_122, li_137, li_146, li_147, li_148, li_149, li_150, li_200, li_255, li_256, li_274, li_510, li_512, li_640, li_999, li_1000, li_1024, li_3334, li_5000, li_9999, li_10000, li_23338, li_26672, li_30000, li_99999, li_150000, li_300000, pk_mul, nI_add, pk_sub, nI_clamp, nI_1, nI_p1, nI_a0, nI_0a, nI_m0, nI_m1, cl_0, cl_1, z01, z11, nI_leI, nI_ltI, nI_eq, nz_lt0, nz_le, nz_eq0, nz_pos, nz_le0, nz_eq1, nz_lt1, nz_ge1, nz_le1, nz_gt1, nz_vp, nz_vp0, nz_vp1, six_nI, vix_nI, bix_nI, pix_nI, fix_nI, gix_nI, rix_nI, zix_nI, pix_0, pix_1, bix_0, fix_0, fix_1, rix_1, true_and, and_true]
    refine ⟨by decide, fun h => absurd h (by omega), fun _ => ⟨by omega, fun c v7 e7 v8 e8 => ?_, fun c v7 e7 v8 e8 => ?_⟩⟩
    · subst e7 e8
      refine ih (v + 1) _ _ (by omega) (by omega) ?_
      simpa [c] using hk
    · subst e7 e8
      refine ih (v + 1) _ _ (by omega) (by omega) ?_
      simpa [c] using hk
theorem rl_mk123 {K : Int32 → Int32 → Int32 → (Nat → Int32) → (Nat → Nat → Int32) → Prop} {P : Int32 → RST → Prop} {r : Nat → Int32} {q : Nat → Nat → Int32} {d fr : Int32} {n : Nat} (hn : n < 6) (hf : fr = -1 ∨ ∃ v, v < n ∧ fr = nI v) (hK : ∀ q1 : Nat → Nat → Int32, kQ q q1 [0] → q1 0 = cpv (q 0) n fr → K d fr (nI n) r q1) : ∀ (k x fuel : Nat) (q' : Nat → Nat → Int32), x + k = 510 → k < fuel → kQ q q' [0] → (∀ i, q' 0 i = if 274 + 510 * n ≤ i ∧ i < 274 + 510 * n + x then cpv (q 0) n fr i else q 0 i) → wp_X11_makeVersion_123 K P fuel d fr (nI n) (nI x) r q' := by
  intro k
  induction k with
  | zero =>
    intro x fuel q' hx hfu hq h0
    obtain ⟨f, rfl⟩ : ∃ f, fuel = f + 1 := ⟨fuel - 1, by omega⟩; rw [wp_X11_makeVersion_123]; unfold wb_X11_makeVersion_123; dsimp only
    simp (disch := omega) only [li_2, li_3, li_4, li_5, li_6, li_7, li_8, li_9, li_10, li_12, li_14, li_20, li_26, li_30, li_31, li_36, li_38, li_47, li_48, li_50, li_57, li_58, li_80, li_98, li_99, li_100, li_102, li_104, li_105, li_108, li_109, li_110, li_114, li_115, li_119, li_122, li_137, li_146, li_147, li_148, li_149, li_150, li_200, li_255, li_256, li_274, li_510, li_512, li_640, li_999, li_1000, li_1024, li_3334, li_5000, li_9999, li_10000, li_23338, li_26672, li_30000, li_99999, li_150000, li_300000, pk_mul, nI_add, pk_sub, nI_clamp, nI_1, nI_p1, nI_a0, nI_0a, nI_m0, nI_m1, cl_0, cl_1, z01, z11, nI_leI, nI_ltI, nI_eq, nz_lt0, nz_le, nz_eq0, nz_pos, nz_le0, nz_eq1, nz_lt1, nz_ge1, nz_le1, nz_gt1, nz_vp, nz_vp0, nz_vp1, six_nI, vix_nI, bix_nI, pix_nI, fix_nI, gix_nI, rix_nI, zix_nI, pix_0, pix_1, bix_0, fix_0, fix_1, rix_1, true_and, and_true]
    obtain rfl : x = 510 := by omega
    refine ⟨fun _ => hK q' hq ?_, fun h => absurd (by omega) h⟩
    funext i
    rw [h0 i]
    unfold cpv
    split
    · rfl
    · rfl
  | succ k ih =>
    intro x fuel q' hx hfu hq h0
    obtain ⟨f, rfl⟩ : ∃ f, fuel = f + 1 := ⟨fuel - 1, by omega⟩; rw [wp_X11_makeVersion_123]; unfold wb_X11_makeVersion_123; dsimp only
    have step : ∀ (val : Int32), val = cpv (q 0) n fr (274 + 510 * n + x) → ∀ q30 : Nat → Nat → Int32, q30 = va_up q' 0 (upd (q' 0) (274 + 510 * n + x) val) → ∀ i, q30 0 i = if 274 + 510 * n ≤ i ∧ i < 274 + 510 * n + (x + 1) then cpv (q 0) n fr i else q 0 i := by
      intro val hval q30 e30 i
      rw [e30, va_up_self]
      by_cases e : i = 274 + 510 * n + x
      · subst e; rw [pk_us, if_pos ⟨by omega, by omega⟩, hval]
      · rw [pk_un e, h0 i]
        by_cases c : 274 + 510 * n ≤ i ∧ i < 274 + 510 * n + x
        · rw [if_pos c, if_pos ⟨c.1, by omega⟩]
        · rw [if_neg c, if_neg (by omega)]
    rcases hf with rfl | ⟨v, hv, rfl⟩
    · simp (disch := omega) only [li_2, li_3, li_4, li_5, li_6, li_7, li_8, li_9, li_10, li_12, li_14, li_20, li_26, li_30, li_31, li_36, li_38, li_47, li_48, li_50, li_57, li_58, li_80, li_98, li_99, li_100, li_102, li_104, li_105, li_108, li_109, li_110, li_114, li_115, li_119, li_122, li_137, li_146, li_147, li_148, li_149, li_150, li_200, li_255, li_256, li_274, li_510, li_512, li_640, li_999, li_1000, li_1024, li_3334, li_5000, li_9999, li_10000, li_23338, li_26672, li_30000, li_99999, li_150000, li_300000, pk_mul, nI_add, pk_sub, nI_clamp, nI_1, nI_p1, nI_a0, nI_0a, nI_m0, nI_m1, cl_0, cl_1, z01, z11, nI_leI, nI_ltI, nI_eq, nz_lt0, nz_le, nz_eq0, nz_pos, nz_le0, nz_eq1, nz_lt1, nz_ge1, nz_le1, nz_gt1, nz_vp, nz_vp0, nz_vp1, six_nI, vix_nI, bix_nI, pix_nI, fix_nI, gix_nI, rix_nI, zix_nI, pix_0, pix_1, bix_0, fix_0, fix_1, rix_1, true_and, and_true]
      refine ⟨fun h => absurd h (by omega), fun _ => ⟨fun c => absurd c (by decide), fun _ => ⟨by omega, fun q33 e33 v34 e34 => ?_⟩⟩⟩
      subst e34
      refine ih (x + 1) _ q33 (by omega) (by omega) (by rw [e33]; exact hq.up (by decide) _) (step 0 ?_ q33 e33)
      unfold cpv
      rw [if_pos ⟨by omega, by omega⟩, if_pos (by decide)]
    · simp (disch := omega) only [li_2, li_3, li_4, li_5, li_6, li_7, li_8, li_9, li_10, li_12, li_14, li_20, li_26, li_30, li_31, li_36, li_38, li_47, li_48, li_50, li_57, li_58, li_80, li_98, li_99, li_100, li_102, li_104, li_105, li_108, li_109, li_110, li_114, li_115, li_119, li_122, li_137, li_146, li_147, li_148, li_149, li_150, li_200, li_255, li_256, li_274, li_510, li_512, li_640, li_999, li_1000, li_1024, li_3334, li_5000, li_9999, li_10000, li_23338, li_26672, li_30000, li_99999, li_150000, li_300000, pk_mul, nI_add, pk_sub, nI_clamp, nI_1, nI_p1, nI_a0, nI_0a, nI_m0, nI_m1, cl_0, cl_1, z01, z11, nI_leI, nI_ltI, nI_eq, nz_lt0, nz_le, nz_eq0, nz_pos, nz_le0, nz_eq1, nz_lt1, nz_ge1, nz_le1, nz_gt1, nz_vp, nz_vp0, nz_vp1, six_nI, vix_nI, bix_nI, pix_nI, fix_nI, gix_nI, rix_nI, zix_nI, pix_0, pix_1, bix_0, fix_0, fix_1, rix_1, true_and, and_true]
      refine ⟨fun h => absurd h (by omega), fun _ => ⟨fun _ => ⟨by omega, by omega, fun q33 e33 v34 e34 => ?_⟩, fun c => absurd trivial c⟩⟩
      subst e34
      refine ih (x + 1) _ q33 (by omega) (by omega) (by rw [e33]; exact hq.up (by decide) _) (step _ ?_ q33 e33)
      rw [h0, if_neg (by omega)]
      unfold cpv
      rw [if_pos ⟨by omega, by omega⟩, if_neg (by rw [nz_lt0 (by omega)]; exact fun z => z)]
      congr 1
      rw [show iv (nI v) = v from nI_clamp (by omega)]
      omega
theorem k_X11_makeVersion (l : Launch) (D : va_G) (T : Nat → ClassId) (m0 : Nat) (a : Nat → Nat) (p0 : Int32) (p1 : Int32) (r : Nat → Int32) (q : Nat → Nat → Int32) (h : WF (q 0) ∧ CW8 r) : RMi l yX11_makeVersion (ws_X11_makeVersion) rm_X11_makeVersion D T m0 a [.ref m0, .int p0, .int p1] r q (fun v u => (stP r q (mkC (q 0) p0 p1) (mkF (q 0) p0 p1) (q 0 0) v u.1 u.2)) := c_X11_makeVersion l D T m0 a p0 p1 r q _ <|
  (by
    obtain ⟨hw, hc8⟩ := h
    obtain ⟨n, hn, hm⟩ := hw.1
    have en : iv (q 0 0) = n := by rw [hm]; exact nI_clamp (by omega)
    unfold wp_X11_makeVersion
    intro r1 e1 v2 e2
    subst e1 e2
    have ez : zin p0 0 999 = b2i (decide (¬ zin p0 0 999 = 0)) := by
      rcases zin_vz p0 0 999 with h | h <;> rw [h] <;> rfl
    rw [ez]
    refine ⟨n + 1, rl_mk17 hn hm n 0 _ _ (by omega) (by omega) ?_⟩
    have bad : ∀ c : Int32, mkC (q 0) p0 p1 = c → ¬ c = 0 → ∀ (v : Int32) (r2 : Nat → Int32) (q2 : Nat → Nat → Int32), (v = 0 ∧ r2 = va_up (va_up r 6 0) 6 c ∧ q2 = q) → stP r q (mkC (q 0) p0 p1) (mkF (q 0) p0 p1) (q 0 0) v r2 q2 := by
      intro c h1 h2 v r2 q2 hh
      obtain ⟨a1, a2, a3⟩ := hh
      rw [a2, a3, vu_up]
      exact stP.bad h1 h2
    have ok : ∀ (hC : mkC (q 0) p0 p1 = 0) (hn6 : n < 6) (hf : p1 = -1 ∨ ∃ v, v < n ∧ p1 = nI v) (r21 : Nat → Int32) (q22 : Nat → Nat → Int32), (kR (va_up r 6 0) r21 [5] ∧ kQ q q22 [3] ∧ psh (q 3) (q22 3) (q 0) ((va_up r 6 0) 5) (r21 5)) → ∀ (q1 : Nat → Nat → Int32), kQ q22 q1 [0] → q1 0 = mkF (q 0) p0 p1 → stP r q (mkC (q 0) p0 p1) (mkF (q 0) p0 p1) (q 0 0) (nI n) r21 q1 := fun hC hn6 hf r21 q22 hh q1 a1 a2 => stP.ok hC hh a1 a2 hm.symm
    have eC : mkC (q 0) p0 p1 = (if zin p0 0 999 = 0 ∨ hdF' (q 0) p0 n 0 = true then 1 else if ¬ p1 = -1 ∧ zin p1 0 (q 0 0 - 1) = 0 then 2 else if q 0 0 = 6 then 3 else 0) := by unfold mkC; rw [en]
    refine ⟨fun c1 => ?_, fun c1 => bad 1 ?_ (by decide)⟩
    rotate_left
    · have := (b2i_0 _).mp c1
      rw [eC, if_pos]
      by_cases c : zin p0 0 999 = 0
      · exact Or.inl c
      · right
        simpa [c] using this
    have c1' : ¬ (zin p0 0 999 = 0 ∨ hdF' (q 0) p0 n 0 = true) := by
      intro z
      apply c1
      rw [b2i_0]
      rcases z with z | z
      · simp [z]
      · simp [z]
    have n6 : ¬ q 0 0 = 6 → n < 6 := fun z => by
      rcases Nat.lt_or_ge n 6 with w | w
      · exact w
      · exact absurd (show q 0 0 = 6 by rw [hm, show n = 6 by omega]; rfl) z
    have l6 : ∀ {x : Nat}, x < n → x < 6 := fun h => by omega
    refine ⟨fun c2 => ⟨by simp (disch := omega) only [li_2, li_3, li_4, li_5, li_6, li_7, li_8, li_9, li_10, li_12, li_14, li_20, li_26, li_30, li_31, li_36, li_38, li_47, li_48, li_50, li_57, li_58, li_80, li_98, li_99, li_100, li_102, li_104, li_105, li_108, li_109, li_110, li_114, li_115, li_119, li_122, li_137, li_146, li_147, li_148, li_149, li_150, li_200, li_255, li_256, li_274, li_510, li_512, li_640, li_999, li_1000, li_1024, li_3334, li_5000, li_9999, li_10000, li_23338, li_26672, li_30000, li_99999, li_150000, li_300000, pk_mul, nI_add, pk_sub, nI_clamp, nI_1, nI_p1, nI_a0, nI_0a, nI_m0, nI_m1, cl_0, cl_1, z01, z11, nI_leI, nI_ltI, nI_eq, nz_lt0, nz_le, nz_eq0, nz_pos, nz_le0, nz_eq1, nz_lt1, nz_ge1, nz_le1, nz_gt1, nz_vp, nz_vp0, nz_vp1, six_nI, vix_nI, bix_nI, pix_nI, fix_nI, gix_nI, rix_nI, zix_nI, pix_0, pix_1, bix_0, fix_0, fix_1, rix_1, true_and, and_true]; decide, fun c3 => ⟨hc8.u6, fun r21 q22 hh => ⟨by simp (disch := omega) only [li_2, li_3, li_4, li_5, li_6, li_7, li_8, li_9, li_10, li_12, li_14, li_20, li_26, li_30, li_31, li_36, li_38, li_47, li_48, li_50, li_57, li_58, li_80, li_98, li_99, li_100, li_102, li_104, li_105, li_108, li_109, li_110, li_114, li_115, li_119, li_122, li_137, li_146, li_147, li_148, li_149, li_150, li_200, li_255, li_256, li_274, li_510, li_512, li_640, li_999, li_1000, li_1024, li_3334, li_5000, li_9999, li_10000, li_23338, li_26672, li_30000, li_99999, li_150000, li_300000, pk_mul, nI_add, pk_sub, nI_clamp, nI_1, nI_p1, nI_a0, nI_0a, nI_m0, nI_m1, cl_0, cl_1, z01, z11, nI_leI, nI_ltI, nI_eq, nz_lt0, nz_le, nz_eq0, nz_pos, nz_le0, nz_eq1, nz_lt1, nz_ge1, nz_le1, nz_gt1, nz_vp, nz_vp0, nz_vp1, six_nI, vix_nI, bix_nI, pix_nI, fix_nI, gix_nI, rix_nI, zix_nI, pix_0, pix_1, bix_0, fix_0, fix_1, rix_1, true_and, and_true]; decide, fun v25 e25 => ?_⟩⟩, fun c3 => bad 3 (by rw [eC, if_neg c1', if_neg (fun z => z.1 c2), if_pos (show q 0 0 = 6 from c3)]) (by decide)⟩, fun c2 => ⟨fun c3 => ⟨by simp (disch := omega) only [li_2, li_3, li_4, li_5, li_6, li_7, li_8, li_9, li_10, li_12, li_14, li_20, li_26, li_30, li_31, li_36, li_38, li_47, li_48, li_50, li_57, li_58, li_80, li_98, li_99, li_100, li_102, li_104, li_105, li_108, li_109, li_110, li_114, li_115, li_119, li_122, li_137, li_146, li_147, li_148, li_149, li_150, li_200, li_255, li_256, li_274, li_510, li_512, li_640, li_999, li_1000, li_1024, li_3334, li_5000, li_9999, li_10000, li_23338, li_26672, li_30000, li_99999, li_150000, li_300000, pk_mul, nI_add, pk_sub, nI_clamp, nI_1, nI_p1, nI_a0, nI_0a, nI_m0, nI_m1, cl_0, cl_1, z01, z11, nI_leI, nI_ltI, nI_eq, nz_lt0, nz_le, nz_eq0, nz_pos, nz_le0, nz_eq1, nz_lt1, nz_ge1, nz_le1, nz_gt1, nz_vp, nz_vp0, nz_vp1, six_nI, vix_nI, bix_nI, pix_nI, fix_nI, gix_nI, rix_nI, zix_nI, pix_0, pix_1, bix_0, fix_0, fix_1, rix_1, true_and, and_true]; decide, fun c4 => ⟨hc8.u6, fun r21 q22 hh => ⟨by simp (disch := omega) only [li_2, li_3, li_4, li_5, li_6, li_7, li_8, li_9, li_10, li_12, li_14, li_20, li_26, li_30, li_31, li_36, li_38, li_47, li_48, li_50, li_57, li_58, li_80, li_98, li_99, li_100, li_102, li_104, li_105, li_108, li_109, li_110, li_114, li_115, li_119, li_122, li_137, li_146, li_147, li_148, li_149, li_150, li_200, li_255, li_256, li_274, li_510, li_512, li_640, li_999, li_1000, li_1024, li_3334, li_5000, li_9999, li_10000, li_23338, li_26672, li_30000, li_99999, li_150000, li_300000, pk_mul, nI_add, pk_sub, nI_clamp, nI_1, nI_p1, nI_a0, nI_0a, nI_m0, nI_m1, cl_0, cl_1, z01, z11, nI_leI, nI_ltI, nI_eq, nz_lt0, nz_le, nz_eq0, nz_pos, nz_le0, nz_eq1, nz_lt1, nz_ge1, nz_le1, nz_gt1, nz_vp, nz_vp0, nz_vp1, six_nI, vix_nI, bix_nI, pix_nI, fix_nI, gix_nI, rix_nI, zix_nI, pix_0, pix_1, bix_0, fix_0, fix_1, rix_1, true_and, and_true]; decide, fun v25 e25 => ?_⟩⟩, fun c4 => bad 3 (by rw [eC, if_neg c1', if_neg (fun z => c3 z.2), if_pos (show q 0 0 = 6 from c4)]) (by decide)⟩, fun c3 => bad 2 (by rw [eC, if_neg c1', if_pos ⟨c2, c3⟩]) (by decide)⟩⟩
    · have hn6 := n6 c3
      have e22 : q22 0 = q 0 := hh.2.1 0 (by decide)
      rw [e22] at e25
      have e25' : v25 = nI n := e25.trans hm
      subst e25'
      refine ⟨511, rl_mk123 hn6 (Or.inl c2) (fun q39 a1 a2 => ?_) 510 0 _ q22 (by omega) (by omega) kQ.rf (fun i => by rw [if_neg (by omega)])⟩
      refine ⟨fun c => absurd c (by rw [c2]; decide), fun _ => ?_⟩
      simp (disch := omega) only [li_2, li_3, li_4, li_5, li_6, li_7, li_8, li_9, li_10, li_12, li_14, li_20, li_26, li_30, li_31, li_36, li_38, li_47, li_48, li_50, li_57, li_58, li_80, li_98, li_99, li_100, li_102, li_104, li_105, li_108, li_109, li_110, li_114, li_115, li_119, li_122, li_137, li_146, li_147, li_148, li_149, li_150, li_200, li_255, li_256, li_274, li_510, li_512, li_640, li_999, li_1000, li_1024, li_3334, li_5000, li_9999, li_10000, li_23338, li_26672, li_30000, li_99999, li_150000, li_300000, pk_mul, nI_add, pk_sub, nI_clamp, nI_1, nI_p1, nI_a0, nI_0a, nI_m0, nI_m1, cl_0, cl_1, z01, z11, nI_leI, nI_ltI, nI_eq, nz_lt0, nz_le, nz_eq0, nz_pos, nz_le0, nz_eq1, nz_lt1, nz_ge1, nz_le1, nz_gt1, nz_vp, nz_vp0, nz_vp1, six_nI, vix_nI, bix_nI, pix_nI, fix_nI, gix_nI, rix_nI, zix_nI, pix_0, pix_1, bix_0, fix_0, fix_1, rix_1, true_and, and_true]
      refine ⟨by omega, fun q47 e47 => ⟨by omega, fun q49 e49 => ⟨by omega, fun q51 e51 => ⟨by decide, by decide, fun q54 e54 => ?_⟩⟩⟩⟩
      refine ok (by rw [eC, if_neg c1', if_neg (fun z => z.1 c2), if_neg (show ¬ q 0 0 = 6 from c3)]) hn6 (Or.inl c2) r21 q22 hh q54 ?_ ?_
      · rw [e54, e51, e49, e47]; exact (((a1.up (by decide) _).up (by decide) _).up (by decide) _).up (by decide) _
      · unfold mkF
        rw [e54, va_up_self, e51, va_up_self, e49, va_up_self, e47, va_up_self, a2, e22, en, if_pos (show p1 < 0 by rw [c2]; decide)]
        congr 1
        rw [pk_un (by omega), pk_un (by omega), pk_un (by omega)]
        unfold cpv
        rw [if_neg (by omega)]
    · have hn6 := n6 c4
      have e22 : q22 0 = q 0 := hh.2.1 0 (by decide)
      rw [e22] at e25
      have e25' : v25 = nI n := e25.trans hm
      subst e25'
      obtain ⟨v, hv, ev⟩ : ∃ v, v < n ∧ p1 = nI v := by rw [hm] at c3; exact zin_m (by omega) c3
      refine ⟨511, rl_mk123 hn6 (Or.inr ⟨v, hv, ev⟩) (fun q39 a1 a2 => ?_) 510 0 _ q22 (by omega) (by omega) kQ.rf (fun i => by rw [if_neg (by omega)])⟩
      have hp0 : 0 ≤ p1 := by rw [ev]; exact nI_pos' (by omega)
      refine ⟨fun _ => ?_, fun c => absurd hp0 c⟩
      simp (disch := omega) only [li_2, li_3, li_4, li_5, li_6, li_7, li_8, li_9, li_10, li_12, li_14, li_20, li_26, li_30, li_31, li_36, li_38, li_47, li_48, li_50, li_57, li_58, li_80, li_98, li_99, li_100, li_102, li_104, li_105, li_108, li_109, li_110, li_114, li_115, li_119, li_122, li_137, li_146, li_147, li_148, li_149, li_150, li_200, li_255, li_256, li_274, li_510, li_512, li_640, li_999, li_1000, li_1024, li_3334, li_5000, li_9999, li_10000, li_23338, li_26672, li_30000, li_99999, li_150000, li_300000, pk_mul, nI_add, pk_sub, nI_clamp, nI_1, nI_p1, nI_a0, nI_0a, nI_m0, nI_m1, cl_0, cl_1, z01, z11, nI_leI, nI_ltI, nI_eq, nz_lt0, nz_le, nz_eq0, nz_pos, nz_le0, nz_eq1, nz_lt1, nz_ge1, nz_le1, nz_gt1, nz_vp, nz_vp0, nz_vp1, six_nI, vix_nI, bix_nI, pix_nI, fix_nI, gix_nI, rix_nI, zix_nI, pix_0, pix_1, bix_0, fix_0, fix_1, rix_1, true_and, and_true]
      refine ⟨by omega, fun q51 e51 => ⟨by decide, by decide, fun q54 e54 => ?_⟩⟩
      refine ok (by rw [eC, if_neg c1', if_neg (fun z => c3 z.2), if_neg (show ¬ q 0 0 = 6 from c4)]) hn6 (Or.inr ⟨v, hv, ev⟩) r21 q22 hh q54 ?_ ?_
      · rw [e54, e51]; exact (a1.up (by decide) _).up (by decide) _
      · unfold mkF
        rw [e54, va_up_self, e51, va_up_self, a2, e22, en, if_neg (Int32.not_lt.mpr hp0)]
        congr 1
        rw [pk_un (by omega)]
        unfold cpv
        rw [if_neg (by omega)])

end S_RDS
