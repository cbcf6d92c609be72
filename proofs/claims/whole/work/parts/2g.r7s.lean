section S_R7S
abbrev ws_X11_holds : List Cond := Cond.code yX11_holds cX11_holds 7 (some .boolean) :: W0
abbrev rm_X11_holds : Room := ({ frames := 2, cells := 0, slots := 0, locals := 48 } : Room)
def wb_X11_holds_37 (rec : Int32 → Int32 → Int32 → Int32 → Int32 → (Nat → Int32) → (Nat → Nat → Int32) → Prop) (K99 : Int32 → Int32 → Int32 → Int32 → (Nat → Int32) → (Nat → Nat → Int32) → Prop) (P : Int32 → RST → Prop) (x1 : Int32) (x2 : Int32) (x3 : Int32) (x4 : Int32) (x5 : Int32) (r : Nat → Int32) (q : Nat → Nat → Int32) : Prop := vp_in (x1 + 4) 3334 ∧ (((q 0 (Int32.toNatClampNeg (x1 + 4))) ≤ x5 → (K99 x1 x2 x3 x4 r q)) ∧ (¬ (q 0 (Int32.toNatClampNeg (x1 + 4))) ≤ x5 → (vp_in ((x1 + 6) + x5) 3334 ∧ (∀ v8 : Int32, v8 = (q 0 (Int32.toNatClampNeg ((x1 + 6) + x5))) → ((¬ (v8 / 300000) = x3 → (∀ v10 : Int32, v10 = (x4 &&& 1) → (∀ v11 : Int32, v11 = x5 + 1 → (rec x1 x2 x3 v10 v11 r q)))) ∧ ((v8 / 300000) = x3 → ((tix v8) ∧ (((b2i (tb (r 20) (r 21) (r 22) (r 23) (r 19) (iv v8))) = 0 → (∀ v14 : Int32, v14 = (x4 &&& 0) → (∀ v15 : Int32, v15 = x5 + 1 → (rec x1 x2 x3 v14 v15 r q)))) ∧ (¬ (b2i (tb (r 20) (r 21) (r 22) (r 23) (r 19) (iv v8))) = 0 → (∀ v16 : Int32, v16 = (x4 &&& 1) → (∀ v17 : Int32, v17 = x5 + 1 → (rec x1 x2 x3 v16 v17 r q))))))))))))
def wp_X11_holds_37 (K99 : Int32 → Int32 → Int32 → Int32 → (Nat → Int32) → (Nat → Nat → Int32) → Prop) (P : Int32 → RST → Prop) : Nat → Int32 → Int32 → Int32 → Int32 → Int32 → (Nat → Int32) → (Nat → Nat → Int32) → Prop
  | 0 => fun _ _ _ _ _ _ _ => False
  | n + 1 => fun x1 x2 x3 x4 x5 r q => wb_X11_holds_37 (wp_X11_holds_37 K99 P n) K99 P x1 x2 x3 x4 x5 r q
set_option maxRecDepth 100000 in
set_option maxHeartbeats 4000000 in
theorem t_X11_holds_37 {p : Program} {l : Launch} {e : Env} {s : State} {m : MethodId} {args : Array Value} {below : List Frame} {meth : Method} {c : Code} {D : va_G} {A : Nat → Prop} {T : Nat → ClassId} {m0 : Nat} {a : Nat → Nat} (C : GC p s m args meth c cX11_holds "FreightRaterModel" (ws_X11_holds) 7 D A (zty T)) (hr : meth.sig.returnType = (some .boolean)) (K99 : Int32 → Int32 → Int32 → Int32 → (Nat → Int32) → (Nat → Nat → Int32) → Prop) (P : Int32 → RST → Prop) (hK99 : ∀ (x1 : Int32) (x2 : Int32) (x3 : Int32) (x4 : Int32) (r : Nat → Int32) (q : Nat → Nat → Int32), K99 x1 x2 x3 x4 r q → GW p l e rm_X11_holds s m args below meth c D A 7 0 0 (MQ below (va_Qi P (RE D T m0 a A) A) args s 0 0 A) (RW m0 a T r q) 0 0 99 [(0, .ref m0), (1, .int x1), (2, .int x2), (3, .int x3), (4, .int x4)] []) : ∀ (n : Nat) (x1 : Int32) (x2 : Int32) (x3 : Int32) (x4 : Int32) (x5 : Int32) (r : Nat → Int32) (q : Nat → Nat → Int32), wp_X11_holds_37 K99 P n x1 x2 x3 x4 x5 r q → GW p l e rm_X11_holds s m args below meth c D A 7 0 0 (MQ below (va_Qi P (RE D T m0 a A) A) args s 0 0 A) (RW m0 a T r q) 0 0 37 [(0, .ref m0), (1, .int x1), (2, .int x2), (3, .int x3), (4, .int x4), (5, .int x5)] [] := by
  have hw : ∀ {w : Cond}, w ∈ W0 → w.before args s = true := fun h => C.2.2.2.2.1 _ (List.mem_cons_of_mem _ h)
  intro n
  induction n with
  | zero => intro x1 x2 x3 x4 x5 r q h; exact h.elim
  | succ n ih =>
    intro x1 x2 x3 x4 x5 r q h
    replace h : wb_X11_holds_37 (wp_X11_holds_37 K99 P n) K99 P x1 x2 x3 x4 x5 r q := h
    unfold wb_X11_holds_37 at h
    refine g_iload C dX11_holds_37 5 rfl ?_
    refine g_aload_n C dX11_holds_39 rfl 0 rfl ?_
    refine gr_get C iwx_X11 0 (hw kw_1809) (by decide) rfl rfl dX11_holds_40 ?_
    refine g_iload_n C dX11_holds_43 rfl 1 rfl ?_
    refine g_iconst (v := 4) C dX11_holds_44 (by decide) ?_
    refine g_iadd C dX11_holds_45 ?_
    obtain ⟨g5, h⟩ := h
    refine gr_ald_0 C g5 dX11_holds_46 ?_
    refine g_icmp_ge (tgt := 99) C dX11_holds_47 (by decide) (fun z6 => ?_) (fun z6 => ?_)
    · replace h := h.1 z6
      refine g_locals [0, 1, 2, 3, 4] rfl ?_
      exact hK99 x1 x2 x3 x4 r q h
    · replace h := h.2 z6
      refine g_aload_n C dX11_holds_50 rfl 0 rfl ?_
      refine gr_get C iwx_X11 0 (hw kw_1809) (by decide) rfl rfl dX11_holds_51 ?_
      refine g_iload_n C dX11_holds_54 rfl 1 rfl ?_
      refine g_bipush (v := 6) C dX11_holds_55 (by decide) ?_
      refine g_iadd C dX11_holds_57 ?_
      refine g_iload C dX11_holds_58 5 rfl ?_
      refine g_iadd C dX11_holds_60 ?_
      obtain ⟨g7, h⟩ := h
      refine gr_ald_0 C g7 dX11_holds_61 ?_
      refine g_topi (fun v8 ev8 => ?_)
      replace h := h v8 ev8
      refine g_istore (lv' := [(6, .int v8), (0, .ref m0), (1, .int x1), (2, .int x2), (3, .int x3), (4, .int x4), (5, .int x5)]) C dX11_holds_62 (by decide) rfl ?_
      refine g_iload C dX11_holds_64 5 rfl ?_
      refine g_iload C dX11_holds_66 0 rfl ?_
      refine g_ldcw (v := 300000) C dX11_holds_68 (hw kw_2216) ?_
      refine g_idiv C dX11_holds_71 (by decide) ?_
      refine g_iload_n C dX11_holds_72 rfl 4 rfl ?_
      refine g_icmp_ne (tgt := 85) C dX11_holds_73 (by decide) (fun z9 => ?_) (fun z9 => ?_)
      · replace h := h.1 z9
        refine g_iconst (v := 1) C dX11_holds_85 (by decide) ?_
        refine g_goto (tgt := 90) C dX11_holds_86 (by decide) ?_
        refine g_iand C dX11_holds_90 ?_
        refine g_topi (fun v10 ev10 => ?_)
        replace h := h v10 ev10
        refine g_istore (lv' := [(4, .int v10), (6, .int v8), (0, .ref m0), (1, .int x1), (2, .int x2), (3, .int x3), (5, .int x5)]) C dX11_holds_91 (by decide) rfl ?_
        obtain ⟨v11, ev11⟩ : ∃ y : Int32, y = x5 + 1 := ⟨_, rfl⟩
        replace h := h v11 ev11
        refine g_iinc (v := v11) (lv' := [(5, .int v11), (4, .int v10), (6, .int v8), (0, .ref m0), (1, .int x1), (2, .int x2), (3, .int x3)]) C dX11_holds_93 (j := 6) rfl (by rw [ev11]; rfl) (by decide) rfl ?_
        refine g_goto (tgt := 37) C dX11_holds_96 (by decide) ?_
        refine g_locals [3, 4, 5, 6, 1, 0] rfl ?_
        exact ih x1 x2 x3 v10 v11 r q h
      · replace h := h.2 z9
        refine g_aload_n C dX11_holds_76 rfl 1 rfl ?_
        refine g_iload C dX11_holds_77 0 rfl ?_
        obtain ⟨g12, h⟩ := h
        refine gr_callVf C [.int v8] rfl (k_X11_isTrue l D T m0 a v8 r q g12) (w0_V 1 C.2.2.2.2.1 kw_2217 kw_2219 ks_95 kw_9 kw_2220 rfl rfl (by decide +kernel) ⟨by decide, by decide⟩) rfl (Nat.le_of_ble_eq_true rfl) (Nat.zero_le _) (Nat.zero_le _) dX11_holds_79 ?_
        refine g_if_eq (tgt := 89) C dX11_holds_82 (by decide) (fun z13 => ?_) (fun z13 => ?_)
        · replace h := h.1 z13
          refine g_iconst (v := 0) C dX11_holds_89 (by decide) ?_
          refine g_iand C dX11_holds_90 ?_
          refine g_topi (fun v14 ev14 => ?_)
          replace h := h v14 ev14
          refine g_istore (lv' := [(4, .int v14), (6, .int v8), (0, .ref m0), (1, .int x1), (2, .int x2), (3, .int x3), (5, .int x5)]) C dX11_holds_91 (by decide) rfl ?_
          obtain ⟨v15, ev15⟩ : ∃ y : Int32, y = x5 + 1 := ⟨_, rfl⟩
          replace h := h v15 ev15
          refine g_iinc (v := v15) (lv' := [(5, .int v15), (4, .int v14), (6, .int v8), (0, .ref m0), (1, .int x1), (2, .int x2), (3, .int x3)]) C dX11_holds_93 (j := 6) rfl (by rw [ev15]; rfl) (by decide) rfl ?_
          refine g_goto (tgt := 37) C dX11_holds_96 (by decide) ?_
          refine g_locals [3, 4, 5, 6, 1, 0] rfl ?_
          exact ih x1 x2 x3 v14 v15 r q h
        · replace h := h.2 z13
          refine g_iconst (v := 1) C dX11_holds_85 (by decide) ?_
          refine g_goto (tgt := 90) C dX11_holds_86 (by decide) ?_
          refine g_iand C dX11_holds_90 ?_
          refine g_topi (fun v16 ev16 => ?_)
          replace h := h v16 ev16
          refine g_istore (lv' := [(4, .int v16), (6, .int v8), (0, .ref m0), (1, .int x1), (2, .int x2), (3, .int x3), (5, .int x5)]) C dX11_holds_91 (by decide) rfl ?_
          obtain ⟨v17, ev17⟩ : ∃ y : Int32, y = x5 + 1 := ⟨_, rfl⟩
          replace h := h v17 ev17
          refine g_iinc (v := v17) (lv' := [(5, .int v17), (4, .int v16), (6, .int v8), (0, .ref m0), (1, .int x1), (2, .int x2), (3, .int x3)]) C dX11_holds_93 (j := 6) rfl (by rw [ev17]; rfl) (by decide) rfl ?_
          refine g_goto (tgt := 37) C dX11_holds_96 (by decide) ?_
          refine g_locals [3, 4, 5, 6, 1, 0] rfl ?_
          exact ih x1 x2 x3 v16 v17 r q h
def wb_X11_holds_19 (rec : Int32 → Int32 → Int32 → (Nat → Int32) → (Nat → Nat → Int32) → Prop) (P : Int32 → RST → Prop) (x1 : Int32) (x2 : Int32) (x3 : Int32) (r : Nat → Int32) (q : Nat → Nat → Int32) : Prop := vp_in (x1 + 3) 3334 ∧ (((q 0 (Int32.toNatClampNeg (x1 + 3))) ≤ x3 → (vz x2 ∧ P x2 (r, q))) ∧ (¬ (q 0 (Int32.toNatClampNeg (x1 + 3))) ≤ x3 → (∃ k26 : Nat, wp_X11_holds_37 (fun (y18 : Int32) (y19 : Int32) (y20 : Int32) (y21 : Int32) (r22 : Nat → Int32) (q23 : Nat → Nat → Int32) => ∀ v24 : Int32, v24 = (y19 ||| y21) → (∀ v25 : Int32, v25 = y20 + 1 → (rec y18 v24 v25 r22 q23))) P k26 x1 x2 x3 1 0 r q)))
def wp_X11_holds_19 (P : Int32 → RST → Prop) : Nat → Int32 → Int32 → Int32 → (Nat → Int32) → (Nat → Nat → Int32) → Prop
  | 0 => fun _ _ _ _ _ => False
  | n + 1 => fun x1 x2 x3 r q => wb_X11_holds_19 (wp_X11_holds_19  P n)  P x1 x2 x3 r q
set_option maxRecDepth 100000 in
set_option maxHeartbeats 4000000 in
theorem t_X11_holds_19 {p : Program} {l : Launch} {e : Env} {s : State} {m : MethodId} {args : Array Value} {below : List Frame} {meth : Method} {c : Code} {D : va_G} {A : Nat → Prop} {T : Nat → ClassId} {m0 : Nat} {a : Nat → Nat} (C : GC p s m args meth c cX11_holds "FreightRaterModel" (ws_X11_holds) 7 D A (zty T)) (hr : meth.sig.returnType = (some .boolean)) (P : Int32 → RST → Prop) : ∀ (n : Nat) (x1 : Int32) (x2 : Int32) (x3 : Int32) (r : Nat → Int32) (q : Nat → Nat → Int32), wp_X11_holds_19  P n x1 x2 x3 r q → GW p l e rm_X11_holds s m args below meth c D A 7 0 0 (MQ below (va_Qi P (RE D T m0 a A) A) args s 0 0 A) (RW m0 a T r q) 0 0 19 [(0, .ref m0), (1, .int x1), (2, .int x2), (3, .int x3)] [] := by
  have hw : ∀ {w : Cond}, w ∈ W0 → w.before args s = true := fun h => C.2.2.2.2.1 _ (List.mem_cons_of_mem _ h)
  intro n
  induction n with
  | zero => intro x1 x2 x3 r q h; exact h.elim
  | succ n ih =>
    intro x1 x2 x3 r q h
    replace h : wb_X11_holds_19 (wp_X11_holds_19  P n)  P x1 x2 x3 r q := h
    unfold wb_X11_holds_19 at h
    refine g_iload_n C dX11_holds_19 rfl 3 rfl ?_
    refine g_aload_n C dX11_holds_20 rfl 0 rfl ?_
    refine gr_get C iwx_X11 0 (hw kw_1809) (by decide) rfl rfl dX11_holds_21 ?_
    refine g_iload_n C dX11_holds_24 rfl 1 rfl ?_
    refine g_iconst (v := 3) C dX11_holds_25 (by decide) ?_
    refine g_iadd C dX11_holds_26 ?_
    obtain ⟨g3, h⟩ := h
    refine gr_ald_0 C g3 dX11_holds_27 ?_
    refine g_icmp_ge (tgt := 110) C dX11_holds_28 (by decide) (fun z4 => ?_) (fun z4 => ?_)
    · replace h := h.1 z4
      refine g_iload_n C dX11_holds_110 rfl 2 rfl ?_
      exact gr_zret C hr h.1 dX11_holds_111 h.2
    · replace h := h.2 z4
      refine g_iconst (v := 1) C dX11_holds_31 (by decide) ?_
      refine g_istore (lv' := [(4, .int 1), (0, .ref m0), (1, .int x1), (2, .int x2), (3, .int x3)]) C dX11_holds_32 (by decide) rfl ?_
      refine g_iconst (v := 0) C dX11_holds_34 (by decide) ?_
      refine g_istore (lv' := [(5, .int 0), (4, .int 1), (0, .ref m0), (1, .int x1), (2, .int x2), (3, .int x3)]) C dX11_holds_35 (by decide) rfl ?_
      refine g_locals [2, 3, 4, 5, 1, 0] rfl ?_
      obtain ⟨k26, h⟩ := h
      refine t_X11_holds_37 C hr _ P ?_ k26 x1 x2 x3 1 0 r q h
      · intro y18 y19 y20 y21 r22 q23 h
        refine g_iload_n C dX11_holds_99 rfl 2 rfl ?_
        refine g_iload C dX11_holds_100 4 rfl ?_
        refine g_ior C dX11_holds_102 ?_
        refine g_topi (fun v24 ev24 => ?_)
        replace h := h v24 ev24
        refine g_istore_n (lv' := [(2, .int v24), (0, .ref m0), (1, .int y18), (3, .int y20), (4, .int y21)]) C dX11_holds_103 rfl (by decide) rfl ?_
        obtain ⟨v25, ev25⟩ : ∃ y : Int32, y = y20 + 1 := ⟨_, rfl⟩
        replace h := h v25 ev25
        refine g_iinc (v := v25) (lv' := [(3, .int v25), (2, .int v24), (0, .ref m0), (1, .int y18), (4, .int y21)]) C dX11_holds_104 (j := 3) rfl (by rw [ev25]; rfl) (by decide) rfl ?_
        refine g_goto (tgt := 19) C dX11_holds_107 (by decide) ?_
        refine g_locals [2, 3, 1, 0] rfl ?_
        exact ih y18 v24 v25 r22 q23 h
def wp_X11_holds (P : Int32 → RST → Prop) (p0 : Int32) (r : Nat → Int32) (q : Nat → Nat → Int32) : Prop := vp_in (p0 + 3) 3334 ∧ ((¬ (q 0 (Int32.toNatClampNeg (p0 + 3))) = 0 → (∃ k27 : Nat, wp_X11_holds_19  P k27 p0 0 0 r q)) ∧ ((q 0 (Int32.toNatClampNeg (p0 + 3))) = 0 → (∃ k28 : Nat, wp_X11_holds_19  P k28 p0 1 0 r q)))
set_option maxRecDepth 100000 in
set_option maxHeartbeats 4000000 in
theorem t_X11_holds {p : Program} {l : Launch} {e : Env} {s : State} {m : MethodId} {args : Array Value} {below : List Frame} {meth : Method} {c : Code} {D : va_G} {A : Nat → Prop} {T : Nat → ClassId} {m0 : Nat} {a : Nat → Nat} (C : GC p s m args meth c cX11_holds "FreightRaterModel" (ws_X11_holds) 7 D A (zty T)) (hr : meth.sig.returnType = (some .boolean)) (P : Int32 → RST → Prop) : ∀ (p0 : Int32) (r : Nat → Int32) (q : Nat → Nat → Int32), wp_X11_holds P p0 r q → GW p l e rm_X11_holds s m args below meth c D A 7 0 0 (MQ below (va_Qi P (RE D T m0 a A) A) args s 0 0 A) (RW m0 a T r q) 0 0 0 [(0, .ref m0), (1, .int p0)] [] := by
  have hw : ∀ {w : Cond}, w ∈ W0 → w.before args s = true := fun h => C.2.2.2.2.1 _ (List.mem_cons_of_mem _ h)
  intro p0 r q h
  unfold wp_X11_holds at h
  refine g_aload_n C dX11_holds_0 rfl 0 rfl ?_
  refine gr_get C iwx_X11 0 (hw kw_1809) (by decide) rfl rfl dX11_holds_1 ?_
  refine g_iload_n C dX11_holds_4 rfl 1 rfl ?_
  refine g_iconst (v := 3) C dX11_holds_5 (by decide) ?_
  refine g_iadd C dX11_holds_6 ?_
  obtain ⟨g1, h⟩ := h
  refine gr_ald_0 C g1 dX11_holds_7 ?_
  refine g_if_ne (tgt := 15) C dX11_holds_8 (by decide) (fun z2 => ?_) (fun z2 => ?_)
  · replace h := h.1 z2
    refine g_iconst (v := 0) C dX11_holds_15 (by decide) ?_
    refine g_istore_n (lv' := [(2, .int 0), (0, .ref m0), (1, .int p0)]) C dX11_holds_16 rfl (by decide) rfl ?_
    refine g_iconst (v := 0) C dX11_holds_17 (by decide) ?_
    refine g_istore_n (lv' := [(3, .int 0), (2, .int 0), (0, .ref m0), (1, .int p0)]) C dX11_holds_18 rfl (by decide) rfl ?_
    refine g_locals [2, 3, 1, 0] rfl ?_
    obtain ⟨k27, h⟩ := h
    refine t_X11_holds_19 C hr  P  k27 p0 0 0 r q h
  · replace h := h.2 z2
    refine g_iconst (v := 1) C dX11_holds_11 (by decide) ?_
    refine g_goto (tgt := 16) C dX11_holds_12 (by decide) ?_
    refine g_istore_n (lv' := [(2, .int 1), (0, .ref m0), (1, .int p0)]) C dX11_holds_16 rfl (by decide) rfl ?_
    refine g_iconst (v := 0) C dX11_holds_17 (by decide) ?_
    refine g_istore_n (lv' := [(3, .int 0), (2, .int 1), (0, .ref m0), (1, .int p0)]) C dX11_holds_18 rfl (by decide) rfl ?_
    refine g_locals [2, 3, 1, 0] rfl ?_
    obtain ⟨k28, h⟩ := h
    refine t_X11_holds_19 C hr  P  k28 p0 1 0 r q h
theorem c_X11_holds (l : Launch) (D : va_G) (T : Nat → ClassId) (m0 : Nat) (a : Nat → Nat) (p0 : Int32) (r : Nat → Int32) (q : Nat → Nat → Int32) (P : Int32 → RST → Prop) (h : wp_X11_holds P p0 r q) : RMi l yX11_holds (ws_X11_holds) rm_X11_holds D T m0 a [.ref m0, .int p0] r q P := gr_meti (by decide) rfl rfl (Nat.le_of_ble_eq_true rfl) (fun p e s m args below meth c A C hr => t_X11_holds C hr P p0 r q h)
theorem rl_holds_in {K : Int32 → Int32 → Int32 → Int32 → (Nat → Int32) → (Nat → Nat → Int32) → Prop} {P : Int32 → RST → Prop} {r : Nat → Int32} {q : Nat → Nat → Int32} {e T row : Nat} {x2 : Int32} (he : e + 36 ≤ 3334) (hT : T ≤ 30) (hr : row < 2 ^ 31) (h4 : q 0 (e + 4) = nI T) (ht : ∀ k, k < 30 → sm (q 0) (e + 6 + k) 9999999) : ∀ (k j fuel : Nat) (acc : Bool), j + k = T → k < fuel → K (nI e) x2 (nI row) (b2i (acc && allB (q 0) e (r 20) (r 21) (r 22) (r 23) (r 19) row k j)) r q → wp_X11_holds_37 K P fuel (nI e) x2 (nI row) (b2i acc) (nI j) r q := by
  intro k
  induction k with
  | zero =>
    intro j fuel acc hj hf hp
    obtain ⟨f, rfl⟩ : ∃ f, fuel = f + 1 := ⟨fuel - 1, by omega⟩; rw [wp_X11_holds_37]; unfold wb_X11_holds_37; dsimp only
    rw [allB, Bool.and_true] at hp
    simp (disch := omega) only [h4, li_2, li_3, li_4, li_5, li_6, li_7, li_8, li_9, li_10, li_12, li_14, li_20, li_26, li_30, li_31, li_36, li_38, li_47, li_48, li_50, li_57, li_58, li_80, li_98, li_99, li_100, li_102, li_104, li_105, li_108, li_109, li_110, li_114, li_115, li_119, li_122, li_137, li_146, li_147, li_148, li_149, li_150, li_200, li_255, li_256, li_274, li_510, li_512, li_640, li_999, li_1000, li_1024, li_3334, li_5000, li_9999, li_10000, li_23338, li_26672, li_30000, li_99999, li_150000, li_300000, pk_mul, nI_add, pk_sub, nI_clamp, nI_1, nI_p1, nI_a0, nI_0a, nI_m0, nI_m1, cl_0, cl_1, z01, z11, nI_leI, nI_ltI, nI_eq, nz_lt0, nz_le, nz_eq0, nz_pos, nz_le0, nz_eq1, nz_lt1, nz_ge1, nz_le1, nz_gt1, nz_vp, nz_vp0, nz_vp1, six_nI, vix_nI, bix_nI, pix_nI, fix_nI, gix_nI, rix_nI, zix_nI, pix_0, pix_1, bix_0, fix_0, fix_1, rix_1, true_and, and_true]
    exact ⟨by omega, fun _ => hp, fun h => absurd (by omega) h⟩
  | succ k ih =>
    intro j fuel acc hj hf hp
    obtain ⟨f, rfl⟩ : ∃ f, fuel = f + 1 := ⟨fuel - 1, by omega⟩; rw [wp_X11_holds_37]; unfold wb_X11_holds_37; dsimp only
    obtain ⟨n, hn, hq⟩ := ht j (by omega)
    rw [allB] at hp
    have b1 : n / 300000 < 2 ^ 31 := Nat.lt_of_le_of_lt (Nat.div_le_self _ _) (by omega)
    have d1 : nI n / nI 300000 = nI (n / 300000) := pk_div (by omega) (by decide) (by decide)
    have hvn : iv (nI n) = n := nI_clamp (by omega)
    rw [hq, hvn] at hp
    simp (disch := omega) only [h4, hq, li_2, li_3, li_4, li_5, li_6, li_7, li_8, li_9, li_10, li_12, li_14, li_20, li_26, li_30, li_31, li_36, li_38, li_47, li_48, li_50, li_57, li_58, li_80, li_98, li_99, li_100, li_102, li_104, li_105, li_108, li_109, li_110, li_114, li_115, li_119, li_122, li_137, li_146, li_147, li_148, li_149, li_150, li_200, li_255, li_256, li_274, li_510, li_512, li_640, li_999, li_1000, li_1024, li_3334, li_5000, li_9999, li_10000, li_23338, li_26672, li_30000, li_99999, li_150000, li_300000, pk_mul, nI_add, pk_sub, nI_clamp, nI_1, nI_p1, nI_a0, nI_0a, nI_m0, nI_m1, cl_0, cl_1, z01, z11, nI_leI, nI_ltI, nI_eq, nz_lt0, nz_le, nz_eq0, nz_pos, nz_le0, nz_eq1, nz_lt1, nz_ge1, nz_le1, nz_gt1, nz_vp, nz_vp0, nz_vp1, six_nI, vix_nI, bix_nI, pix_nI, fix_nI, gix_nI, rix_nI, zix_nI, pix_0, pix_1, bix_0, fix_0, fix_1, rix_1, true_and, and_true]
    refine ⟨by omega, fun h => absurd h (by omega), fun _ => ⟨by omega, fun v8 e8 => ?_⟩⟩
    subst e8
    rw [d1]
    simp (disch := omega) only [hvn, b2i_a1, b2i_a0, li_2, li_3, li_4, li_5, li_6, li_7, li_8, li_9, li_10, li_12, li_14, li_20, li_26, li_30, li_31, li_36, li_38, li_47, li_48, li_50, li_57, li_58, li_80, li_98, li_99, li_100, li_102, li_104, li_105, li_108, li_109, li_110, li_114, li_115, li_119, li_122, li_137, li_146, li_147, li_148, li_149, li_150, li_200, li_255, li_256, li_274, li_510, li_512, li_640, li_999, li_1000, li_1024, li_3334, li_5000, li_9999, li_10000, li_23338, li_26672, li_30000, li_99999, li_150000, li_300000, pk_mul, nI_add, pk_sub, nI_clamp, nI_1, nI_p1, nI_a0, nI_0a, nI_m0, nI_m1, cl_0, cl_1, z01, z11, nI_leI, nI_ltI, nI_eq, nz_lt0, nz_le, nz_eq0, nz_pos, nz_le0, nz_eq1, nz_lt1, nz_ge1, nz_le1, nz_gt1, nz_vp, nz_vp0, nz_vp1, six_nI, vix_nI, bix_nI, pix_nI, fix_nI, gix_nI, rix_nI, zix_nI, pix_0, pix_1, bix_0, fix_0, fix_1, rix_1, true_and, and_true]
    refine ⟨fun c v10 e10 v11 e11 => ?_, fun c => ⟨⟨n, hn, rfl⟩, fun c2 v10 e10 v11 e11 => ?_, fun c2 v10 e10 v11 e11 => ?_⟩⟩
    · subst e10 e11
      refine ih (j + 1) f acc (by omega) (by omega) ?_
      simpa [c] using hp
    · subst e10 e11
      refine ih (j + 1) f false (by omega) (by omega) ?_
      have c3 := (b2i_0 _).mp c2
      simpa [c, c3] using hp
    · subst e10 e11
      refine ih (j + 1) f acc (by omega) (by omega) ?_
      have c3 : tb (r 20) (r 21) (r 22) (r 23) (r 19) n = true := by
        cases hb : tb (r 20) (r 21) (r 22) (r 23) (r 19) n with
        | true => rfl
        | false => rw [hb] at c2; exact absurd rfl c2
      simpa [c, c3] using hp
theorem rl_holds {P : Int32 → RST → Prop} {r : Nat → Int32} {q : Nat → Nat → Int32} {e T R : Nat} (he : e + 36 ≤ 3334) (hT : T ≤ 30) (hR : R ≤ 30) (h3 : q 0 (e + 3) = nI R) (h4 : q 0 (e + 4) = nI T) (ht : ∀ k, k < 30 → sm (q 0) (e + 6 + k) 9999999) : ∀ (k row fuel : Nat) (acc : Bool), row + k = R → k < fuel → P (b2i (acc || anyB (q 0) e (r 20) (r 21) (r 22) (r 23) (r 19) k row)) (r, q) → wp_X11_holds_19 P fuel (nI e) (b2i acc) (nI row) r q := by
  intro k
  induction k with
  | zero =>
    intro row fuel acc hj hf hp
    obtain ⟨f, rfl⟩ : ∃ f, fuel = f + 1 := ⟨fuel - 1, by omega⟩; rw [wp_X11_holds_19]; unfold wb_X11_holds_19; dsimp only
    rw [anyB, Bool.or_false] at hp
    simp (disch := omega) only [h3, li_2, li_3, li_4, li_5, li_6, li_7, li_8, li_9, li_10, li_12, li_14, li_20, li_26, li_30, li_31, li_36, li_38, li_47, li_48, li_50, li_57, li_58, li_80, li_98, li_99, li_100, li_102, li_104, li_105, li_108, li_109, li_110, li_114, li_115, li_119, li_122, li_137, li_146, li_147, li_148, li_149, li_150, li_200, li_255, li_256, li_274, li_510, li_512, li_640, li_999, li_1000, li_1024, li_3334, li_5000, li_9999, li_10000, li_23338, li_26672, li_30000, li_99999, li_150000, li_300000, pk_mul, nI_add, pk_sub, nI_clamp, nI_1, nI_p1, nI_a0, nI_0a, nI_m0, nI_m1, cl_0, cl_1, z01, z11, nI_leI, nI_ltI, nI_eq, nz_lt0, nz_le, nz_eq0, nz_pos, nz_le0, nz_eq1, nz_lt1, nz_ge1, nz_le1, nz_gt1, nz_vp, nz_vp0, nz_vp1, six_nI, vix_nI, bix_nI, pix_nI, fix_nI, gix_nI, rix_nI, zix_nI, pix_0, pix_1, bix_0, fix_0, fix_1, rix_1, true_and, and_true]
    exact ⟨by omega, fun _ => ⟨b2i_vz _, hp⟩, fun h => absurd (by omega) h⟩
  | succ k ih =>
    intro row fuel acc hj hf hp
    obtain ⟨f, rfl⟩ : ∃ f, fuel = f + 1 := ⟨fuel - 1, by omega⟩; rw [wp_X11_holds_19]; unfold wb_X11_holds_19; dsimp only
    rw [anyB, h4, show iv (nI T) = T from nI_clamp (by omega)] at hp
    simp (disch := omega) only [h3, li_2, li_3, li_4, li_5, li_6, li_7, li_8, li_9, li_10, li_12, li_14, li_20, li_26, li_30, li_31, li_36, li_38, li_47, li_48, li_50, li_57, li_58, li_80, li_98, li_99, li_100, li_102, li_104, li_105, li_108, li_109, li_110, li_114, li_115, li_119, li_122, li_137, li_146, li_147, li_148, li_149, li_150, li_200, li_255, li_256, li_274, li_510, li_512, li_640, li_999, li_1000, li_1024, li_3334, li_5000, li_9999, li_10000, li_23338, li_26672, li_30000, li_99999, li_150000, li_300000, pk_mul, nI_add, pk_sub, nI_clamp, nI_1, nI_p1, nI_a0, nI_0a, nI_m0, nI_m1, cl_0, cl_1, z01, z11, nI_leI, nI_ltI, nI_eq, nz_lt0, nz_le, nz_eq0, nz_pos, nz_le0, nz_eq1, nz_lt1, nz_ge1, nz_le1, nz_gt1, nz_vp, nz_vp0, nz_vp1, six_nI, vix_nI, bix_nI, pix_nI, fix_nI, gix_nI, rix_nI, zix_nI, pix_0, pix_1, bix_0, fix_0, fix_1, rix_1, true_and, and_true]
    refine ⟨by omega, fun h => absurd h (by omega), fun _ => ⟨T + 1, rl_holds_in he hT (by omega) h4 ht T 0 _ true (by omega) (by omega) ?_⟩⟩
    intro v24 e24 v25 e25
    subst e24 e25
    simp (disch := omega) only [li_2, li_3, li_4, li_5, li_6, li_7, li_8, li_9, li_10, li_12, li_14, li_20, li_26, li_30, li_31, li_36, li_38, li_47, li_48, li_50, li_57, li_58, li_80, li_98, li_99, li_100, li_102, li_104, li_105, li_108, li_109, li_110, li_114, li_115, li_119, li_122, li_137, li_146, li_147, li_148, li_149, li_150, li_200, li_255, li_256, li_274, li_510, li_512, li_640, li_999, li_1000, li_1024, li_3334, li_5000, li_9999, li_10000, li_23338, li_26672, li_30000, li_99999, li_150000, li_300000, pk_mul, nI_add, pk_sub, nI_clamp, nI_1, nI_p1, nI_a0, nI_0a, nI_m0, nI_m1, cl_0, cl_1, z01, z11]
    rw [b2i_or, Bool.true_and]
    refine ih (row + 1) f _ (by omega) (by omega) ?_
    rw [Bool.or_assoc]
    exact hp
theorem k_X11_holds (l : Launch) (D : va_G) (T : Nat → ClassId) (m0 : Nat) (a : Nat → Nat) (p0 : Int32) (r : Nat → Int32) (q : Nat → Nat → Int32) (h : WF (q 0) ∧ eix p0) : RMi l yX11_holds (ws_X11_holds) rm_X11_holds D T m0 a [.ref m0, .int p0] r q (fun v u => v = (b2i (hldB (q 0) (iv p0) (r 20) (r 21) (r 22) (r 23) (r 19))) ∧ u = (r, q)) := c_X11_holds l D T m0 a p0 r q _ <|
  (by
    obtain ⟨hw, v, a, hv, ha, rfl⟩ := h
    obtain ⟨-, -, -, ⟨R, hR, h3⟩, ⟨T, hT, h4⟩, -, ht, -⟩ := hw.acc hv ha
    unfold wp_X11_holds hldB
    simp (disch := omega) only [h3, li_2, li_3, li_4, li_5, li_6, li_7, li_8, li_9, li_10, li_12, li_14, li_20, li_26, li_30, li_31, li_36, li_38, li_47, li_48, li_50, li_57, li_58, li_80, li_98, li_99, li_100, li_102, li_104, li_105, li_108, li_109, li_110, li_114, li_115, li_119, li_122, li_137, li_146, li_147, li_148, li_149, li_150, li_200, li_255, li_256, li_274, li_510, li_512, li_640, li_999, li_1000, li_1024, li_3334, li_5000, li_9999, li_10000, li_23338, li_26672, li_30000, li_99999, li_150000, li_300000, pk_mul, nI_add, pk_sub, nI_clamp, nI_1, nI_p1, nI_a0, nI_0a, nI_m0, nI_m1, cl_0, cl_1, z01, z11, nI_leI, nI_ltI, nI_eq, nz_lt0, nz_le, nz_eq0, nz_pos, nz_le0, nz_eq1, nz_lt1, nz_ge1, nz_le1, nz_gt1, nz_vp, nz_vp0, nz_vp1, six_nI, vix_nI, bix_nI, pix_nI, fix_nI, gix_nI, rix_nI, zix_nI, pix_0, pix_1, bix_0, fix_0, fix_1, rix_1, true_and, and_true]
    refine ⟨by omega, fun c => ⟨R + 1, rl_holds (P := fun x u => x = b2i (decide (R = 0) || anyB (q 0) (274 + 510 * v + 150 + 36 * a) (r 20) (r 21) (r 22) (r 23) (r 19) R 0) ∧ u = (r, q)) (by omega) hT hR h3 h4 ht R 0 _ false (by omega) (by omega) ⟨?_, rfl⟩⟩, fun c => ⟨R + 1, rl_holds (P := fun x u => x = b2i (decide (R = 0) || anyB (q 0) (274 + 510 * v + 150 + 36 * a) (r 20) (r 21) (r 22) (r 23) (r 19) R 0) ∧ u = (r, q)) (by omega) hT hR h3 h4 ht R 0 _ true (by omega) (by omega) ⟨?_, rfl⟩⟩⟩
    · simp [c]
    · simp [c])
abbrev ws_X11_totalOf : List Cond := Cond.code yX11_totalOf cX11_totalOf 6 (some .int) :: W0
abbrev rm_X11_totalOf : Room := ({ frames := 4, cells := 0, slots := 0, locals := 91 } : Room)
def wp_X11_totalOf_119 (K34 : Int32 → Int32 → Int32 → (Nat → Int32) → (Nat → Nat → Int32) → Prop) (P : Int32 → RST → Prop) (x1 : Int32) (x3 : Int32) (x4 : Int32) (s0 : Int32) (s1 : Int32) (r : Nat → Int32) (q : Nat → Nat → Int32) : Prop := ∀ v21 : Int32, v21 = (s1 ||| s0) → (vp_in (x4 + 1) 3334 ∧ (∀ v23 : Int32, v23 = (q 0 (Int32.toNatClampNeg (x4 + 1))) → (vp_in (x4 + 2) 3334 ∧ ((¬ (q 0 (Int32.toNatClampNeg (x4 + 2))) = 0 → (vp_in (x4 + 2) 3334 ∧ ((¬ (q 0 (Int32.toNatClampNeg (x4 + 2))) = 1 → (∀ r28 : Nat → Int32, r28 = va_up r 25 ((r 25) + (pctF (r 24) v23)) → (∀ v29 : Int32, v29 = x3 + 1 → (K34 x1 v21 v29 r28 q)))) ∧ ((q 0 (Int32.toNatClampNeg (x4 + 2))) = 1 → (∀ r30 : Nat → Int32, r30 = va_up r 25 ((r 25) + (v23 * (r 20))) → (∀ v31 : Int32, v31 = x3 + 1 → (K34 x1 v21 v31 r30 q))))))) ∧ ((q 0 (Int32.toNatClampNeg (x4 + 2))) = 0 → (∀ r32 : Nat → Int32, r32 = va_up r 25 ((r 25) + v23) → (∀ v33 : Int32, v33 = x3 + 1 → (K34 x1 v21 v33 r32 q))))))))
set_option maxRecDepth 100000 in
set_option maxHeartbeats 4000000 in
theorem t_X11_totalOf_119 {p : Program} {l : Launch} {e : Env} {s : State} {m : MethodId} {args : Array Value} {below : List Frame} {meth : Method} {c : Code} {D : va_G} {A : Nat → Prop} {T : Nat → ClassId} {m0 : Nat} {a : Nat → Nat} (C : GC p s m args meth c cX11_totalOf "FreightRaterModel" (ws_X11_totalOf) 6 D A (zty T)) (hr : meth.sig.returnType = (some .int)) (K34 : Int32 → Int32 → Int32 → (Nat → Int32) → (Nat → Nat → Int32) → Prop) (P : Int32 → RST → Prop) (hK34 : ∀ (x1 : Int32) (x2 : Int32) (x3 : Int32) (r : Nat → Int32) (q : Nat → Nat → Int32), K34 x1 x2 x3 r q → GW p l e rm_X11_totalOf s m args below meth c D A 6 0 0 (MQ below (va_Qi P (RE D T m0 a A) A) args s 0 0 A) (RW m0 a T r q) 0 0 34 [(0, .ref m0), (1, .int x1), (2, .int x2), (3, .int x3)] []) : ∀ (x1 : Int32) (x3 : Int32) (x4 : Int32) (s0 : Int32) (s1 : Int32) (r : Nat → Int32) (q : Nat → Nat → Int32), wp_X11_totalOf_119 K34 P x1 x3 x4 s0 s1 r q → GW p l e rm_X11_totalOf s m args below meth c D A 6 0 0 (MQ below (va_Qi P (RE D T m0 a A) A) args s 0 0 A) (RW m0 a T r q) 0 0 119 [(0, .ref m0), (1, .int x1), (3, .int x3), (4, .int x4)] [.int s0, .int s1] := by
  have hw : ∀ {w : Cond}, w ∈ W0 → w.before args s = true := fun h => C.2.2.2.2.1 _ (List.mem_cons_of_mem _ h)
  intro x1 x3 x4 s0 s1 r q h
  unfold wp_X11_totalOf_119 at h
  refine g_ior C dX11_totalOf_119 ?_
  refine g_topi (fun v21 ev21 => ?_)
  replace h := h v21 ev21
  refine g_istore_n (lv' := [(2, .int v21), (0, .ref m0), (1, .int x1), (3, .int x3), (4, .int x4)]) C dX11_totalOf_120 rfl (by decide) rfl ?_
  refine g_aload_n C dX11_totalOf_121 rfl 1 rfl ?_
  refine gr_get C iwx_X11 0 (hw kw_1809) (by decide) rfl rfl dX11_totalOf_122 ?_
  refine g_iload C dX11_totalOf_125 4 rfl ?_
  refine g_iconst (v := 1) C dX11_totalOf_127 (by decide) ?_
  refine g_iadd C dX11_totalOf_128 ?_
  obtain ⟨g22, h⟩ := h
  refine gr_ald_0 C g22 dX11_totalOf_129 ?_
  refine g_topi (fun v23 ev23 => ?_)
  replace h := h v23 ev23
  refine g_istore (lv' := [(5, .int v23), (2, .int v21), (0, .ref m0), (1, .int x1), (3, .int x3), (4, .int x4)]) C dX11_totalOf_130 (by decide) rfl ?_
  refine g_aload_n C dX11_totalOf_132 rfl 2 rfl ?_
  refine g_dup C dX11_totalOf_133 rfl ?_
  refine gr_get C iwx_X11 25 (hw kw_1834) (by decide) rfl rfl dX11_totalOf_134 ?_
  refine g_aload_n C dX11_totalOf_137 rfl 2 rfl ?_
  refine gr_get C iwx_X11 0 (hw kw_1809) (by decide) rfl rfl dX11_totalOf_138 ?_
  refine g_iload C dX11_totalOf_141 5 rfl ?_
  refine g_iconst (v := 2) C dX11_totalOf_143 (by decide) ?_
  refine g_iadd C dX11_totalOf_144 ?_
  obtain ⟨g24, h⟩ := h
  refine gr_ald_0 C g24 dX11_totalOf_145 ?_
  refine g_if_ne (tgt := 154) C dX11_totalOf_146 (by decide) (fun z25 => ?_) (fun z25 => ?_)
  · replace h := h.1 z25
    refine g_aload_n C dX11_totalOf_154 rfl 2 rfl ?_
    refine gr_get C iwx_X11 0 (hw kw_1809) (by decide) rfl rfl dX11_totalOf_155 ?_
    refine g_iload C dX11_totalOf_158 5 rfl ?_
    refine g_iconst (v := 2) C dX11_totalOf_160 (by decide) ?_
    refine g_iadd C dX11_totalOf_161 ?_
    obtain ⟨g26, h⟩ := h
    refine gr_ald_0 C g26 dX11_totalOf_162 ?_
    refine g_iconst (v := 1) C dX11_totalOf_163 (by decide) ?_
    refine g_icmp_ne (tgt := 177) C dX11_totalOf_164 (by decide) (fun z27 => ?_) (fun z27 => ?_)
    · replace h := h.1 z27
      refine g_aload_n C dX11_totalOf_177 rfl 2 rfl ?_
      refine gr_get C iwx_X11 24 (hw kw_1833) (by decide) rfl rfl dX11_totalOf_178 ?_
      refine g_iload C dX11_totalOf_181 0 rfl ?_
      refine gr_callSf C [.int (r 24), .int v23] rfl (k_X11_percent l D T m0 a (r 24) v23 r q) (w0_S 2 C.2.2.2.2.1 kw_2222 kw_2223 kw_9 kw_2224 rfl rfl (by decide +kernel) ⟨by decide, by decide⟩) rfl (Nat.le_of_ble_eq_true rfl) (Nat.zero_le _) (Nat.zero_le _) dX11_totalOf_183 ?_
      refine g_iadd C dX11_totalOf_186 ?_
      refine gr_put_25 C iwx_X11 (hw kw_1834) dX11_totalOf_187 ?_
      refine gr_nr (fun r28 er28 => ?_)
      replace h := h r28 er28
      obtain ⟨v29, ev29⟩ : ∃ y : Int32, y = x3 + 1 := ⟨_, rfl⟩
      replace h := h v29 ev29
      refine g_iinc (v := v29) (lv' := [(3, .int v29), (5, .int v23), (2, .int v21), (0, .ref m0), (1, .int x1), (4, .int x4)]) C dX11_totalOf_190 (j := 4) rfl (by rw [ev29]; rfl) (by decide) rfl ?_
      refine g_goto (tgt := 34) C dX11_totalOf_193 (by decide) ?_
      refine g_locals [3, 4, 2, 0] rfl ?_
      exact hK34 x1 v21 v29 r28 q h
    · replace h := h.2 z27
      refine g_iload C dX11_totalOf_167 0 rfl ?_
      refine g_aload_n C dX11_totalOf_169 rfl 2 rfl ?_
      refine gr_get C iwx_X11 20 (hw kw_1829) (by decide) rfl rfl dX11_totalOf_170 ?_
      refine g_imul C dX11_totalOf_173 ?_
      refine g_goto (tgt := 186) C dX11_totalOf_174 (by decide) ?_
      refine g_iadd C dX11_totalOf_186 ?_
      refine gr_put_25 C iwx_X11 (hw kw_1834) dX11_totalOf_187 ?_
      refine gr_nr (fun r30 er30 => ?_)
      replace h := h r30 er30
      obtain ⟨v31, ev31⟩ : ∃ y : Int32, y = x3 + 1 := ⟨_, rfl⟩
      replace h := h v31 ev31
      refine g_iinc (v := v31) (lv' := [(3, .int v31), (5, .int v23), (2, .int v21), (0, .ref m0), (1, .int x1), (4, .int x4)]) C dX11_totalOf_190 (j := 4) rfl (by rw [ev31]; rfl) (by decide) rfl ?_
      refine g_goto (tgt := 34) C dX11_totalOf_193 (by decide) ?_
      refine g_locals [3, 4, 2, 0] rfl ?_
      exact hK34 x1 v21 v31 r30 q h
  · replace h := h.2 z25
    refine g_iload C dX11_totalOf_149 0 rfl ?_
    refine g_goto (tgt := 186) C dX11_totalOf_151 (by decide) ?_
    refine g_iadd C dX11_totalOf_186 ?_
    refine gr_put_25 C iwx_X11 (hw kw_1834) dX11_totalOf_187 ?_
    refine gr_nr (fun r32 er32 => ?_)
    replace h := h r32 er32
    obtain ⟨v33, ev33⟩ : ∃ y : Int32, y = x3 + 1 := ⟨_, rfl⟩
    replace h := h v33 ev33
    refine g_iinc (v := v33) (lv' := [(3, .int v33), (5, .int v23), (2, .int v21), (0, .ref m0), (1, .int x1), (4, .int x4)]) C dX11_totalOf_190 (j := 4) rfl (by rw [ev33]; rfl) (by decide) rfl ?_
    refine g_goto (tgt := 34) C dX11_totalOf_193 (by decide) ?_
    refine g_locals [3, 4, 2, 0] rfl ?_
    exact hK34 x1 v21 v33 r32 q h
def wb_X11_totalOf_34 (rec : Int32 → Int32 → Int32 → (Nat → Int32) → (Nat → Nat → Int32) → Prop) (K196 : Int32 → (Nat → Int32) → (Nat → Nat → Int32) → Prop) (P : Int32 → RST → Prop) (x1 : Int32) (x2 : Int32) (x3 : Int32) (r : Nat → Int32) (q : Nat → Nat → Int32) : Prop := (10 ≤ x3 → (K196 x1 r q)) ∧ (¬ 10 ≤ x3 → (∀ v9 : Int32, v9 = (274 + 510 * (r 18) + 150 + 36 * x3) → (vp_in v9 3334 ∧ ((¬ (q 0 (Int32.toNatClampNeg v9)) = 1 → (∀ v12 : Int32, v12 = x3 + 1 → (rec x1 x2 v12 r q))) ∧ ((q 0 (Int32.toNatClampNeg v9)) = 1 → ((¬ (hasF x2 x3) = 0 → (∀ v14 : Int32, v14 = x3 + 1 → (rec x1 x2 v14 r q))) ∧ ((hasF x2 x3) = 0 → ((WF (q 0) ∧ eix v9) ∧ (((b2i (hldB (q 0) (iv v9) (r 20) (r 21) (r 22) (r 23) (r 19))) = 0 → (∀ v17 : Int32, v17 = x3 + 1 → (rec x1 x2 v17 r q))) ∧ (¬ (b2i (hldB (q 0) (iv v9) (r 20) (r 21) (r 22) (r 23) (r 19))) = 0 → (∀ r18 : Nat → Int32, r18 = va_up r 28 ((r 28) ||| (1 <<< (x3 &&& 31))) → (vp_in (v9 + 5) 3334 ∧ (((q 0 (Int32.toNatClampNeg (v9 + 5))) ≤ x3 → (wp_X11_totalOf_119 (fun (y34 : Int32) (y35 : Int32) (y36 : Int32) (r37 : Nat → Int32) (q38 : Nat → Nat → Int32) => rec y34 y35 y36 r37 q38) P x1 x3 v9 0 x2 r18 q)) ∧ (¬ (q 0 (Int32.toNatClampNeg (v9 + 5))) ≤ x3 → (vp_in (v9 + 5) 3334 ∧ (wp_X11_totalOf_119 (fun (y40 : Int32) (y41 : Int32) (y42 : Int32) (r43 : Nat → Int32) (q44 : Nat → Nat → Int32) => rec y40 y41 y42 r43 q44) P x1 x3 v9 (1 <<< ((q 0 (Int32.toNatClampNeg (v9 + 5))) &&& 31)) x2 r18 q))))))))))))))))
def wp_X11_totalOf_34 (K196 : Int32 → (Nat → Int32) → (Nat → Nat → Int32) → Prop) (P : Int32 → RST → Prop) : Nat → Int32 → Int32 → Int32 → (Nat → Int32) → (Nat → Nat → Int32) → Prop
  | 0 => fun _ _ _ _ _ => False
  | n + 1 => fun x1 x2 x3 r q => wb_X11_totalOf_34 (wp_X11_totalOf_34 K196 P n) K196 P x1 x2 x3 r q
set_option maxRecDepth 100000 in
set_option maxHeartbeats 4000000 in
theorem t_X11_totalOf_34 {p : Program} {l : Launch} {e : Env} {s : State} {m : MethodId} {args : Array Value} {below : List Frame} {meth : Method} {c : Code} {D : va_G} {A : Nat → Prop} {T : Nat → ClassId} {m0 : Nat} {a : Nat → Nat} (C : GC p s m args meth c cX11_totalOf "FreightRaterModel" (ws_X11_totalOf) 6 D A (zty T)) (hr : meth.sig.returnType = (some .int)) (K196 : Int32 → (Nat → Int32) → (Nat → Nat → Int32) → Prop) (P : Int32 → RST → Prop) (hK196 : ∀ (x1 : Int32) (r : Nat → Int32) (q : Nat → Nat → Int32), K196 x1 r q → GW p l e rm_X11_totalOf s m args below meth c D A 6 0 0 (MQ below (va_Qi P (RE D T m0 a A) A) args s 0 0 A) (RW m0 a T r q) 0 0 196 [(0, .ref m0), (1, .int x1)] []) : ∀ (n : Nat) (x1 : Int32) (x2 : Int32) (x3 : Int32) (r : Nat → Int32) (q : Nat → Nat → Int32), wp_X11_totalOf_34 K196 P n x1 x2 x3 r q → GW p l e rm_X11_totalOf s m args below meth c D A 6 0 0 (MQ below (va_Qi P (RE D T m0 a A) A) args s 0 0 A) (RW m0 a T r q) 0 0 34 [(0, .ref m0), (1, .int x1), (2, .int x2), (3, .int x3)] [] := by
  have hw : ∀ {w : Cond}, w ∈ W0 → w.before args s = true := fun h => C.2.2.2.2.1 _ (List.mem_cons_of_mem _ h)
  intro n
  induction n with
  | zero => intro x1 x2 x3 r q h; exact h.elim
  | succ n ih =>
    intro x1 x2 x3 r q h
    replace h : wb_X11_totalOf_34 (wp_X11_totalOf_34 K196 P n) K196 P x1 x2 x3 r q := h
    unfold wb_X11_totalOf_34 at h
    refine g_iload_n C dX11_totalOf_34 rfl 3 rfl ?_
    refine g_bipush (v := 10) C dX11_totalOf_35 (by decide) ?_
    refine g_icmp_ge (tgt := 196) C dX11_totalOf_37 (by decide) (fun z8 => ?_) (fun z8 => ?_)
    · replace h := h.1 z8
      refine g_locals [0, 1] rfl ?_
      exact hK196 x1 r q h
    · replace h := h.2 z8
      refine g_aload_n C dX11_totalOf_40 rfl 0 rfl ?_
      refine gr_get C iwx_X11 18 (hw kw_1827) (by decide) rfl rfl dX11_totalOf_41 ?_
      refine g_iload_n C dX11_totalOf_44 rfl 3 rfl ?_
      refine gr_callSf C [.int (r 18), .int x3] rfl (k_X11_extra l D T m0 a (r 18) x3 r q) (w0_S 2 C.2.2.2.2.1 kw_1978 kw_1979 kw_9 kw_1980 rfl rfl (by decide +kernel) ⟨by decide, by decide⟩) rfl (Nat.le_of_ble_eq_true rfl) (Nat.zero_le _) (Nat.zero_le _) dX11_totalOf_45 ?_
      refine g_topi (fun v9 ev9 => ?_)
      replace h := h v9 ev9
      refine g_istore (lv' := [(4, .int v9), (0, .ref m0), (1, .int x1), (2, .int x2), (3, .int x3)]) C dX11_totalOf_48 (by decide) rfl ?_
      refine g_aload_n C dX11_totalOf_50 rfl 1 rfl ?_
      refine gr_get C iwx_X11 0 (hw kw_1809) (by decide) rfl rfl dX11_totalOf_51 ?_
      refine g_iload C dX11_totalOf_54 0 rfl ?_
      obtain ⟨g10, h⟩ := h
      refine gr_ald_0 C g10 dX11_totalOf_56 ?_
      refine g_iconst (v := 1) C dX11_totalOf_57 (by decide) ?_
      refine g_icmp_ne (tgt := 190) C dX11_totalOf_58 (by decide) (fun z11 => ?_) (fun z11 => ?_)
      · replace h := h.1 z11
        obtain ⟨v12, ev12⟩ : ∃ y : Int32, y = x3 + 1 := ⟨_, rfl⟩
        replace h := h v12 ev12
        refine g_iinc (v := v12) (lv' := [(3, .int v12), (4, .int v9), (0, .ref m0), (1, .int x1), (2, .int x2)]) C dX11_totalOf_190 (j := 4) rfl (by rw [ev12]; rfl) (by decide) rfl ?_
        refine g_goto (tgt := 34) C dX11_totalOf_193 (by decide) ?_
        refine g_locals [2, 3, 4, 0] rfl ?_
        exact ih x1 x2 v12 r q h
      · replace h := h.2 z11
        refine g_iload_n C dX11_totalOf_61 rfl 3 rfl ?_
        refine g_iload_n C dX11_totalOf_62 rfl 4 rfl ?_
        refine gr_callSf C [.int x2, .int x3] rfl (k_X11_has l D T m0 a x2 x3 r q) (w0_S 2 C.2.2.2.2.1 kw_2178 kw_2179 kw_9 kw_2180 rfl rfl (by decide +kernel) ⟨by decide, by decide⟩) rfl (Nat.le_of_ble_eq_true rfl) (Nat.zero_le _) (Nat.zero_le _) dX11_totalOf_63 ?_
        refine g_if_ne (tgt := 190) C dX11_totalOf_66 (by decide) (fun z13 => ?_) (fun z13 => ?_)
        · replace h := h.1 z13
          obtain ⟨v14, ev14⟩ : ∃ y : Int32, y = x3 + 1 := ⟨_, rfl⟩
          replace h := h v14 ev14
          refine g_iinc (v := v14) (lv' := [(3, .int v14), (4, .int v9), (0, .ref m0), (1, .int x1), (2, .int x2)]) C dX11_totalOf_190 (j := 4) rfl (by rw [ev14]; rfl) (by decide) rfl ?_
          refine g_goto (tgt := 34) C dX11_totalOf_193 (by decide) ?_
          refine g_locals [2, 3, 4, 0] rfl ?_
          exact ih x1 x2 v14 r q h
        · replace h := h.2 z13
          refine g_aload_n C dX11_totalOf_69 rfl 1 rfl ?_
          refine g_iload C dX11_totalOf_70 0 rfl ?_
          obtain ⟨g15, h⟩ := h
          refine gr_callVf C [.int v9] rfl (k_X11_holds l D T m0 a v9 r q g15) (w0_V 1 C.2.2.2.2.1 kw_2212 kw_2214 ks_94 kw_9 kw_2215 rfl rfl (by decide +kernel) ⟨by decide, by decide⟩) rfl (Nat.le_of_ble_eq_true rfl) (Nat.zero_le _) (Nat.zero_le _) dX11_totalOf_72 ?_
          refine g_if_eq (tgt := 190) C dX11_totalOf_75 (by decide) (fun z16 => ?_) (fun z16 => ?_)
          · replace h := h.1 z16
            obtain ⟨v17, ev17⟩ : ∃ y : Int32, y = x3 + 1 := ⟨_, rfl⟩
            replace h := h v17 ev17
            refine g_iinc (v := v17) (lv' := [(3, .int v17), (4, .int v9), (0, .ref m0), (1, .int x1), (2, .int x2)]) C dX11_totalOf_190 (j := 4) rfl (by rw [ev17]; rfl) (by decide) rfl ?_
            refine g_goto (tgt := 34) C dX11_totalOf_193 (by decide) ?_
            refine g_locals [2, 3, 4, 0] rfl ?_
            exact ih x1 x2 v17 r q h
          · replace h := h.2 z16
            refine g_aload_n C dX11_totalOf_78 rfl 1 rfl ?_
            refine g_dup C dX11_totalOf_79 rfl ?_
            refine gr_get C iwx_X11 28 (hw kw_1837) (by decide) rfl rfl dX11_totalOf_80 ?_
            refine g_iconst (v := 1) C dX11_totalOf_83 (by decide) ?_
            refine g_iload_n C dX11_totalOf_84 rfl 4 rfl ?_
            refine g_ishl C dX11_totalOf_85 ?_
            refine g_ior C dX11_totalOf_86 ?_
            refine gr_put_28 C iwx_X11 (hw kw_1837) dX11_totalOf_87 ?_
            refine gr_nr (fun r18 er18 => ?_)
            replace h := h r18 er18
            refine g_iload_n C dX11_totalOf_90 rfl 3 rfl ?_
            refine g_aload_n C dX11_totalOf_91 rfl 1 rfl ?_
            refine gr_get C iwx_X11 0 (hw kw_1809) (by decide) rfl rfl dX11_totalOf_92 ?_
            refine g_iload C dX11_totalOf_95 0 rfl ?_
            refine g_iconst (v := 5) C dX11_totalOf_97 (by decide) ?_
            refine g_iadd C dX11_totalOf_98 ?_
            obtain ⟨g19, h⟩ := h
            refine gr_ald_0 C g19 dX11_totalOf_99 ?_
            refine g_iload_n C dX11_totalOf_100 rfl 4 rfl ?_
            refine g_icmp_le (tgt := 118) C dX11_totalOf_101 (by decide) (fun z20 => ?_) (fun z20 => ?_)
            · replace h := h.1 z20
              refine g_iconst (v := 0) C dX11_totalOf_118 (by decide) ?_
              refine g_locals [1, 2, 4, 0] rfl ?_
              refine t_X11_totalOf_119 C hr _ P ?_ x1 x3 v9 0 x2 r18 q h
              · intro y34 y35 y36 r37 q38 h
                refine g_locals [0, 1, 2, 3] rfl ?_
                exact ih y34 y35 y36 r37 q38 h
            · replace h := h.2 z20
              refine g_iconst (v := 1) C dX11_totalOf_104 (by decide) ?_
              refine g_aload_n C dX11_totalOf_105 rfl 1 rfl ?_
              refine gr_get C iwx_X11 0 (hw kw_1809) (by decide) rfl rfl dX11_totalOf_106 ?_
              refine g_iload C dX11_totalOf_109 0 rfl ?_
              refine g_iconst (v := 5) C dX11_totalOf_111 (by decide) ?_
              refine g_iadd C dX11_totalOf_112 ?_
              obtain ⟨g39, h⟩ := h
              refine gr_ald_0 C g39 dX11_totalOf_113 ?_
              refine g_ishl C dX11_totalOf_114 ?_
              refine g_goto (tgt := 119) C dX11_totalOf_115 (by decide) ?_
              refine g_locals [1, 2, 4, 0] rfl ?_
              refine t_X11_totalOf_119 C hr _ P ?_ x1 x3 v9 (1 <<< ((q 0 (Int32.toNatClampNeg (v9 + 5))) &&& 31)) x2 r18 q h
              · intro y40 y41 y42 r43 q44 h
                refine g_locals [0, 1, 2, 3] rfl ?_
                exact ih y40 y41 y42 r43 q44 h
def wp_X11_totalOf (P : Int32 → RST → Prop) (p0 : Int32) (r : Nat → Int32) (q : Nat → Nat → Int32) : Prop := (WF (q 0) ∧ vix (r 18) ∧ zix (r 19)) ∧ (∀ (v1 : Int32) (r2 : Nat → Int32) (q3 : Nat → Nat → Int32), (v1 = baseF (q 0) (iv (r 18)) (iv (r 19)) (r 20) ∧ r2 = va_up r 7 (nI (chpF (q 0) (iv (r 18)) (iv (r 19)) (r 20))) ∧ q3 = q) → (∀ r5 : Nat → Int32, r5 = va_up r2 24 v1 → (∀ r6 : Nat → Int32, r6 = va_up r5 25 0 → (∀ r7 : Nat → Int32, r7 = va_up r6 28 0 → (∃ k53 : Nat, wp_X11_totalOf_34 (fun (y45 : Int32) (r46 : Nat → Int32) (q47 : Nat → Nat → Int32) => vp_in ((274 + 510 * (r46 18)) + 148) 3334 ∧ ((gix y45) ∧ (∀ r50 : Nat → Int32, r50 = va_up r46 26 ((q47 0 (Int32.toNatClampNeg ((274 + 510 * (r46 18)) + 148))) * ((nI (popN (iv y45))) - 1)) → (vp_in ((274 + 510 * (r50 18)) + 147) 3334 ∧ (∀ r52 : Nat → Int32, r52 = va_up r50 27 (pctF (((r50 24) + (r50 25)) + (r50 26)) (q47 0 (Int32.toNatClampNeg ((274 + 510 * (r50 18)) + 147)))) → (P ((((r52 24) + (r52 25)) + (r52 26)) + (r52 27)) (r52, q47))))))) P k53 p0 0 0 r7 q3)))))
set_option maxRecDepth 100000 in
set_option maxHeartbeats 4000000 in
theorem t_X11_totalOf {p : Program} {l : Launch} {e : Env} {s : State} {m : MethodId} {args : Array Value} {below : List Frame} {meth : Method} {c : Code} {D : va_G} {A : Nat → Prop} {T : Nat → ClassId} {m0 : Nat} {a : Nat → Nat} (C : GC p s m args meth c cX11_totalOf "FreightRaterModel" (ws_X11_totalOf) 6 D A (zty T)) (hr : meth.sig.returnType = (some .int)) (P : Int32 → RST → Prop) : ∀ (p0 : Int32) (r : Nat → Int32) (q : Nat → Nat → Int32), wp_X11_totalOf P p0 r q → GW p l e rm_X11_totalOf s m args below meth c D A 6 0 0 (MQ below (va_Qi P (RE D T m0 a A) A) args s 0 0 A) (RW m0 a T r q) 0 0 0 [(0, .ref m0), (1, .int p0)] [] := by
  have hw : ∀ {w : Cond}, w ∈ W0 → w.before args s = true := fun h => C.2.2.2.2.1 _ (List.mem_cons_of_mem _ h)
  intro p0 r q h
  unfold wp_X11_totalOf at h
  refine g_aload_n C dX11_totalOf_0 rfl 0 rfl ?_
  refine g_aload_n C dX11_totalOf_1 rfl 0 rfl ?_
  refine g_aload_n C dX11_totalOf_2 rfl 0 rfl ?_
  refine gr_get C iwx_X11 18 (hw kw_1827) (by decide) rfl rfl dX11_totalOf_3 ?_
  refine g_aload_n C dX11_totalOf_6 rfl 0 rfl ?_
  refine gr_get C iwx_X11 19 (hw kw_1828) (by decide) rfl rfl dX11_totalOf_7 ?_
  refine g_aload_n C dX11_totalOf_10 rfl 0 rfl ?_
  refine gr_get C iwx_X11 20 (hw kw_1829) (by decide) rfl rfl dX11_totalOf_11 ?_
  obtain ⟨g4, h⟩ := h
  refine gr_calliV C [.int (r 18), .int (r 19), .int (r 20)] rfl (k_X11_baseOf l D T m0 a (r 18) (r 19) (r 20) r q g4) (w0_V 3 C.2.2.2.2.1 kw_2017 kw_2019 ks_59 kw_9 kw_2020 rfl rfl (by decide +kernel) ⟨by decide, by decide⟩) rfl (Nat.le_of_ble_eq_true rfl) (Nat.zero_le _) (Nat.zero_le _) dX11_totalOf_14 (fun v1 r2 q3 hp => ?_)
  replace h := h v1 r2 q3 hp
  refine gr_put_24 C iwx_X11 (hw kw_1833) dX11_totalOf_17 ?_
  refine gr_nr (fun r5 er5 => ?_)
  replace h := h r5 er5
  refine g_aload_n C dX11_totalOf_20 rfl 0 rfl ?_
  refine g_iconst (v := 0) C dX11_totalOf_21 (by decide) ?_
  refine gr_put_25 C iwx_X11 (hw kw_1834) dX11_totalOf_22 ?_
  refine gr_nr (fun r6 er6 => ?_)
  replace h := h r6 er6
  refine g_aload_n C dX11_totalOf_25 rfl 0 rfl ?_
  refine g_iconst (v := 0) C dX11_totalOf_26 (by decide) ?_
  refine gr_put_28 C iwx_X11 (hw kw_1837) dX11_totalOf_27 ?_
  refine gr_nr (fun r7 er7 => ?_)
  replace h := h r7 er7
  refine g_iconst (v := 0) C dX11_totalOf_30 (by decide) ?_
  refine g_istore_n (lv' := [(2, .int 0), (0, .ref m0), (1, .int p0)]) C dX11_totalOf_31 rfl (by decide) rfl ?_
  refine g_iconst (v := 0) C dX11_totalOf_32 (by decide) ?_
  refine g_istore_n (lv' := [(3, .int 0), (2, .int 0), (0, .ref m0), (1, .int p0)]) C dX11_totalOf_33 rfl (by decide) rfl ?_
  refine g_locals [2, 3, 1, 0] rfl ?_
  obtain ⟨k53, h⟩ := h
  refine t_X11_totalOf_34 C hr _ P ?_ k53 p0 0 0 r7 q3 h
  · intro y45 r46 q47 h
    refine g_aload_n C dX11_totalOf_196 rfl 0 rfl ?_
    refine g_aload_n C dX11_totalOf_197 rfl 0 rfl ?_
    refine gr_get C iwx_X11 0 (hw kw_1809) (by decide) rfl rfl dX11_totalOf_198 ?_
    refine g_aload_n C dX11_totalOf_201 rfl 0 rfl ?_
    refine gr_get C iwx_X11 18 (hw kw_1827) (by decide) rfl rfl dX11_totalOf_202 ?_
    refine gr_callSf C [.int (r46 18)] rfl (k_X11_at l D T m0 a (r46 18) r46 q47) (w0_S 1 C.2.2.2.2.1 kw_1947 kw_1948 kw_9 kw_1949 rfl rfl (by decide +kernel) ⟨by decide, by decide⟩) rfl (Nat.le_of_ble_eq_true rfl) (Nat.zero_le _) (Nat.zero_le _) dX11_totalOf_205 ?_
    refine g_sipush (v := 148) C dX11_totalOf_208 (by decide) ?_
    refine g_iadd C dX11_totalOf_211 ?_
    obtain ⟨g48, h⟩ := h
    refine gr_ald_0 C g48 dX11_totalOf_212 ?_
    refine g_iload_n C dX11_totalOf_213 rfl 1 rfl ?_
    obtain ⟨g49, h⟩ := h
    refine gr_callSf C [.int y45] rfl (k_X11_ones l D T m0 a y45 r46 q47 g49) (w0_S 1 C.2.2.2.2.1 kw_2201 kw_2202 kw_9 kw_2203 rfl rfl (by decide +kernel) ⟨by decide, by decide⟩) rfl (Nat.le_of_ble_eq_true rfl) (Nat.zero_le _) (Nat.zero_le _) dX11_totalOf_214 ?_
    refine g_iconst (v := 1) C dX11_totalOf_217 (by decide) ?_
    refine g_isub C dX11_totalOf_218 ?_
    refine g_imul C dX11_totalOf_219 ?_
    refine gr_put_26 C iwx_X11 (hw kw_1835) dX11_totalOf_220 ?_
    refine gr_nr (fun r50 er50 => ?_)
    replace h := h r50 er50
    refine g_aload_n C dX11_totalOf_223 rfl 0 rfl ?_
    refine g_aload_n C dX11_totalOf_224 rfl 0 rfl ?_
    refine gr_get C iwx_X11 24 (hw kw_1833) (by decide) rfl rfl dX11_totalOf_225 ?_
    refine g_aload_n C dX11_totalOf_228 rfl 0 rfl ?_
    refine gr_get C iwx_X11 25 (hw kw_1834) (by decide) rfl rfl dX11_totalOf_229 ?_
    refine g_iadd C dX11_totalOf_232 ?_
    refine g_aload_n C dX11_totalOf_233 rfl 0 rfl ?_
    refine gr_get C iwx_X11 26 (hw kw_1835) (by decide) rfl rfl dX11_totalOf_234 ?_
    refine g_iadd C dX11_totalOf_237 ?_
    refine g_aload_n C dX11_totalOf_238 rfl 0 rfl ?_
    refine gr_get C iwx_X11 0 (hw kw_1809) (by decide) rfl rfl dX11_totalOf_239 ?_
    refine g_aload_n C dX11_totalOf_242 rfl 0 rfl ?_
    refine gr_get C iwx_X11 18 (hw kw_1827) (by decide) rfl rfl dX11_totalOf_243 ?_
    refine gr_callSf C [.int (r50 18)] rfl (k_X11_at l D T m0 a (r50 18) r50 q47) (w0_S 1 C.2.2.2.2.1 kw_1947 kw_1948 kw_9 kw_1949 rfl rfl (by decide +kernel) ⟨by decide, by decide⟩) rfl (Nat.le_of_ble_eq_true rfl) (Nat.zero_le _) (Nat.zero_le _) dX11_totalOf_246 ?_
    refine g_sipush (v := 147) C dX11_totalOf_249 (by decide) ?_
    refine g_iadd C dX11_totalOf_252 ?_
    obtain ⟨g51, h⟩ := h
    refine gr_ald_0 C g51 dX11_totalOf_253 ?_
    refine gr_callSf C [.int (((r50 24) + (r50 25)) + (r50 26)), .int (q47 0 (Int32.toNatClampNeg ((274 + 510 * (r50 18)) + 147)))] rfl (k_X11_percent l D T m0 a (((r50 24) + (r50 25)) + (r50 26)) (q47 0 (Int32.toNatClampNeg ((274 + 510 * (r50 18)) + 147))) r50 q47) (w0_S 2 C.2.2.2.2.1 kw_2222 kw_2223 kw_9 kw_2224 rfl rfl (by decide +kernel) ⟨by decide, by decide⟩) rfl (Nat.le_of_ble_eq_true rfl) (Nat.zero_le _) (Nat.zero_le _) dX11_totalOf_254 ?_
    refine gr_put_27 C iwx_X11 (hw kw_1836) dX11_totalOf_257 ?_
    refine gr_nr (fun r52 er52 => ?_)
    replace h := h r52 er52
    refine g_aload_n C dX11_totalOf_260 rfl 0 rfl ?_
    refine gr_get C iwx_X11 24 (hw kw_1833) (by decide) rfl rfl dX11_totalOf_261 ?_
    refine g_aload_n C dX11_totalOf_264 rfl 0 rfl ?_
    refine gr_get C iwx_X11 25 (hw kw_1834) (by decide) rfl rfl dX11_totalOf_265 ?_
    refine g_iadd C dX11_totalOf_268 ?_
    refine g_aload_n C dX11_totalOf_269 rfl 0 rfl ?_
    refine gr_get C iwx_X11 26 (hw kw_1835) (by decide) rfl rfl dX11_totalOf_270 ?_
    refine g_iadd C dX11_totalOf_273 ?_
    refine g_aload_n C dX11_totalOf_274 rfl 0 rfl ?_
    refine gr_get C iwx_X11 27 (hw kw_1836) (by decide) rfl rfl dX11_totalOf_275 ?_
    refine g_iadd C dX11_totalOf_278 ?_
    exact gr_iret C hr dX11_totalOf_279 h
theorem c_X11_totalOf (l : Launch) (D : va_G) (T : Nat → ClassId) (m0 : Nat) (a : Nat → Nat) (p0 : Int32) (r : Nat → Int32) (q : Nat → Nat → Int32) (P : Int32 → RST → Prop) (h : wp_X11_totalOf P p0 r q) : RMi l yX11_totalOf (ws_X11_totalOf) rm_X11_totalOf D T m0 a [.ref m0, .int p0] r q P := gr_meti (by decide) rfl rfl (Nat.le_of_ble_eq_true rfl) (fun p e s m args below meth c A C hr => t_X11_totalOf C hr P p0 r q h)
theorem rl_tot119 {K : Int32 → Int32 → Int32 → (Nat → Int32) → (Nat → Nat → Int32) → Prop} {P : Int32 → RST → Prop} {r : Nat → Int32} {q : Nat → Nat → Int32} {g e a : Nat} {o1 o2 : Int32} (he : e + 36 ≤ 3334) (ha : a < 10) (h : ∀ r1 : Nat → Int32, r1 = va_up r 25 (r 25 + (if q 0 (e + 2) = 0 then q 0 (e + 1) else if q 0 (e + 2) = 1 then q 0 (e + 1) * r 20 else pctF (r 24) (q 0 (e + 1)))) → K (nI g) (o2 ||| o1) (nI (a + 1)) r1 q) : wp_X11_totalOf_119 K P (nI g) (nI a) (nI e) o1 o2 r q := by
  unfold wp_X11_totalOf_119
  intro v21 e21
  subst e21
  simp (disch := omega) only [li_2, li_3, li_4, li_5, li_6, li_7, li_8, li_9, li_10, li_12, li_14, li_20, li_26, li_30, li_31, li_36, li_38, li_47, li_48, li_50, li_57, li_58, li_80, li_98, li_99, li_100, li_102, li_104, li_105, li_108, li_109, li_110, li_114, li_115, li_119, li_122, li_137, li_146, li_147, li_148, li_149, li_150, li_200, li_255, li_256, li_274, li_510, li_512, li_640, li_999, li_1000, li_1024, li_3334, li_5000, li_9999, li_10000, li_23338, li_26672, li_30000, li_99999, li_150000, li_300000, pk_mul, nI_add, pk_sub, nI_clamp, nI_1, nI_p1, nI_a0, nI_0a, nI_m0, nI_m1, cl_0, cl_1, z01, z11, nI_leI, nI_ltI, nI_eq, nz_lt0, nz_le, nz_eq0, nz_pos, nz_le0, nz_eq1, nz_lt1, nz_ge1, nz_le1, nz_gt1, nz_vp, nz_vp0, nz_vp1, six_nI, vix_nI, bix_nI, pix_nI, fix_nI, gix_nI, rix_nI, zix_nI, pix_0, pix_1, bix_0, fix_0, fix_1, rix_1, true_and, and_true]
  refine ⟨by omega, fun v23 e23 => ?_⟩
  subst e23
  refine ⟨by omega, fun c => ⟨by omega, fun c2 r28 e28 v29 e29 => ?_, fun c2 r28 e28 v29 e29 => ?_⟩, fun c r28 e28 v29 e29 => ?_⟩
  · rw [e29]; refine h r28 ?_; rw [if_neg c, if_neg c2]; exact e28
  · rw [e29]; refine h r28 ?_; rw [if_neg c, if_pos c2]; exact e28
  · rw [e29]; refine h r28 ?_; rw [if_pos c]; exact e28
theorem rl_totalOf {K : Int32 → (Nat → Int32) → (Nat → Nat → Int32) → Prop} {P : Int32 → RST → Prop} {r : Nat → Int32} {q : Nat → Nat → Int32} {g v z : Nat} {w p l h b : Int32} (hw : WF (q 0)) (hv : v < 6) : ∀ (k a fuel : Nat) (o : Int32) (r' : Nat → Int32), a + k = 10 → k < fuel → r' 18 = nI v → r' 19 = nI z → r' 20 = w → r' 21 = p → r' 22 = l → r' 23 = h → r' 24 = b → kR r r' [7, 24, 25, 26, 27, 28] → r' 7 = r 7 → (∀ r2 : Nat → Int32, kR r r2 [7, 24, 25, 26, 27, 28] → r2 7 = r 7 → r2 24 = b → r2 25 = (exF (q 0) v w p l h (nI z) b k a o (r' 25) (r' 28)).1 → r2 28 = (exF (q 0) v w p l h (nI z) b k a o (r' 25) (r' 28)).2 → K (nI g) r2 q) → wp_X11_totalOf_34 K P fuel (nI g) o (nI a) r' q := by
  intro k
  induction k with
  | zero =>
    intro a fuel o r' ha hf h18 h19 h20 h21 h22 h23 h24 hk h7 hp
    obtain ⟨f, rfl⟩ : ∃ f, fuel = f + 1 := ⟨fuel - 1, by omega⟩; rw [wp_X11_totalOf_34]; unfold wb_X11_totalOf_34; dsimp only
    simp (disch := omega) only [li_2, li_3, li_4, li_5, li_6, li_7, li_8, li_9, li_10, li_12, li_14, li_20, li_26, li_30, li_31, li_36, li_38, li_47, li_48, li_50, li_57, li_58, li_80, li_98, li_99, li_100, li_102, li_104, li_105, li_108, li_109, li_110, li_114, li_115, li_119, li_122, li_137, li_146, li_147, li_148, li_149, li_150, li_200, li_255, li_256, li_274, li_510, li_512, li_640, li_999, li_1000, li_1024, li_3334, li_5000, li_9999, li_10000, li_23338, li_26672, li_30000, li_99999, li_150000, li_300000, pk_mul, nI_add, pk_sub, nI_clamp, nI_1, nI_p1, nI_a0, nI_0a, nI_m0, nI_m1, cl_0, cl_1, z01, z11, nI_leI, nI_ltI, nI_eq, nz_lt0, nz_le, nz_eq0, nz_pos, nz_le0, nz_eq1, nz_lt1, nz_ge1, nz_le1, nz_gt1, nz_vp, nz_vp0, nz_vp1, six_nI, vix_nI, bix_nI, pix_nI, fix_nI, gix_nI, rix_nI, zix_nI, pix_0, pix_1, bix_0, fix_0, fix_1, rix_1, true_and, and_true]
    exact ⟨fun _ => hp r' hk h7 h24 rfl rfl, fun h => absurd (by omega) h⟩
  | succ k ih =>
    intro a fuel o r' ha hf h18 h19 h20 h21 h22 h23 h24 hk h7 hp
    obtain ⟨f, rfl⟩ : ∃ f, fuel = f + 1 := ⟨fuel - 1, by omega⟩; rw [wp_X11_totalOf_34]; unfold wb_X11_totalOf_34; dsimp only
    rw [exF] at hp
    simp (disch := omega) only [h18, li_2, li_3, li_4, li_5, li_6, li_7, li_8, li_9, li_10, li_12, li_14, li_20, li_26, li_30, li_31, li_36, li_38, li_47, li_48, li_50, li_57, li_58, li_80, li_98, li_99, li_100, li_102, li_104, li_105, li_108, li_109, li_110, li_114, li_115, li_119, li_122, li_137, li_146, li_147, li_148, li_149, li_150, li_200, li_255, li_256, li_274, li_510, li_512, li_640, li_999, li_1000, li_1024, li_3334, li_5000, li_9999, li_10000, li_23338, li_26672, li_30000, li_99999, li_150000, li_300000, pk_mul, nI_add, pk_sub, nI_clamp, nI_1, nI_p1, nI_a0, nI_0a, nI_m0, nI_m1, cl_0, cl_1, z01, z11, nI_leI, nI_ltI, nI_eq, nz_lt0, nz_le, nz_eq0, nz_pos, nz_le0, nz_eq1, nz_lt1, nz_ge1, nz_le1, nz_gt1, nz_vp, nz_vp0, nz_vp1, six_nI, vix_nI, bix_nI, pix_nI, fix_nI, gix_nI, rix_nI, zix_nI, pix_0, pix_1, bix_0, fix_0, fix_1, rix_1, true_and, and_true]
    refine ⟨fun h => absurd h (by omega), fun _ v9 e9 => ?_⟩
    subst e9
    simp (disch := omega) only [h20, h21, h22, h23, h19, li_2, li_3, li_4, li_5, li_6, li_7, li_8, li_9, li_10, li_12, li_14, li_20, li_26, li_30, li_31, li_36, li_38, li_47, li_48, li_50, li_57, li_58, li_80, li_98, li_99, li_100, li_102, li_104, li_105, li_108, li_109, li_110, li_114, li_115, li_119, li_122, li_137, li_146, li_147, li_148, li_149, li_150, li_200, li_255, li_256, li_274, li_510, li_512, li_640, li_999, li_1000, li_1024, li_3334, li_5000, li_9999, li_10000, li_23338, li_26672, li_30000, li_99999, li_150000, li_300000, pk_mul, nI_add, pk_sub, nI_clamp, nI_1, nI_p1, nI_a0, nI_0a, nI_m0, nI_m1, cl_0, cl_1, z01, z11, nI_leI, nI_ltI, nI_eq, nz_lt0, nz_le, nz_eq0, nz_pos, nz_le0, nz_eq1, nz_lt1, nz_ge1, nz_le1, nz_gt1, nz_vp, nz_vp0, nz_vp1, six_nI, vix_nI, bix_nI, pix_nI, fix_nI, gix_nI, rix_nI, zix_nI, pix_0, pix_1, bix_0, fix_0, fix_1, rix_1, true_and, and_true]
    have sk : ¬ (q 0 (274 + 510 * v + 150 + 36 * a) = 1 ∧ hasF o (nI a) = 0 ∧ hldB (q 0) (274 + 510 * v + 150 + 36 * a) w p l h (nI z) = true) → ∀ v12 : Int32, v12 = nI (a + 1) → wp_X11_totalOf_34 K P f (nI g) o v12 r' q := fun c v12 e12 => by
      subst e12
      rw [if_neg c] at hp
      exact ih (a + 1) f o r' (by omega) (by omega) h18 h19 h20 h21 h22 h23 h24 hk h7 hp
    refine ⟨by omega, fun c => sk (fun z => c z.1), fun c => ⟨fun c2 => sk (fun z => c2 z.2.1), fun c2 => ⟨⟨hw, v, a, hv, by omega, rfl⟩, fun c3 => sk (fun z => by rw [z.2.2] at c3; exact absurd c3 (by decide)), fun c3 r18 e18 => ⟨by omega, fun c4 => ?_, fun c4 => ⟨by omega, ?_⟩⟩⟩⟩⟩
    all_goals
      have c5 : hldB (q 0) (274 + 510 * v + 150 + 36 * a) w p l h (nI z) = true := by
        cases hb : hldB (q 0) (274 + 510 * v + 150 + 36 * a) w p l h (nI z) with
        | true => rfl
        | false => rw [hb] at c3; exact absurd rfl c3
      rw [if_pos ⟨c, c2, c5⟩] at hp
      refine rl_tot119 (by omega) (by omega) (fun r1 e1 => ?_)
      subst e18
      simp (disch := decide) only [va_up_self, va_up_ne, h20, h24] at e1
      subst e1
      refine ih (a + 1) f _ _ (by omega) (by omega) ?_ ?_ ?_ ?_ ?_ ?_ ?_ ((hk.up (by decide) _).up (by decide) _) ?_ ?_
      any_goals (simp (disch := decide) only [va_up_self, va_up_ne]; assumption)
      simp (disch := decide) only [va_up_self, va_up_ne]
    · rw [if_neg (Int32.not_lt.mpr c4)] at hp
      exact hp
    · rw [if_pos (Int32.not_le.mp c4)] at hp
      exact hp
theorem k_X11_totalOf (l : Launch) (D : va_G) (T : Nat → ClassId) (m0 : Nat) (a : Nat → Nat) (p0 : Int32) (r : Nat → Int32) (q : Nat → Nat → Int32) (h : WF (q 0) ∧ gix p0 ∧ vix (r 18) ∧ zix (r 19)) : RMi l yX11_totalOf (ws_X11_totalOf) rm_X11_totalOf D T m0 a [.ref m0, .int p0] r q (fun v u => (v = toF (q 0) (iv (r 18)) (iv (r 19)) (iv p0) (r 20) (r 21) (r 22) (r 23) ∧ u.2 = q ∧ kR r u.1 [7, 24, 25, 26, 27, 28] ∧ u.1 7 = nI (chpF (q 0) (iv (r 18)) (iv (r 19)) (r 20)) ∧ u.1 24 = baseF (q 0) (iv (r 18)) (iv (r 19)) (r 20) ∧ u.1 25 = (exAC (q 0) (iv (r 18)) (iv (r 19)) (r 20) (r 21) (r 22) (r 23)).1 ∧ u.1 26 = stF (q 0) (iv (r 18)) (iv p0) ∧ u.1 27 = fuF (q 0) (iv (r 18)) (iv (r 19)) (iv p0) (r 20) (r 21) (r 22) (r 23) ∧ u.1 28 = (exAC (q 0) (iv (r 18)) (iv (r 19)) (r 20) (r 21) (r 22) (r 23)).2)) := c_X11_totalOf l D T m0 a p0 r q _ <|
  (by
    obtain ⟨hw, ⟨g, hg, rfl⟩, ⟨v, hv, h18⟩, ⟨z, h1, h9, h19⟩⟩ := h
    unfold wp_X11_totalOf
    refine ⟨⟨hw, ⟨v, hv, h18⟩, ⟨z, h1, h9, h19⟩⟩, fun v1 r2 q3 hh => ?_⟩
    obtain ⟨e1, e2, e3⟩ := hh
    subst e3
    intro r5 e5 r6 e6 r7 e7
    refine ⟨11, rl_totalOf (g := g) (v := v) (z := z) (w := r 20) (p := r 21) (l := r 22) (h := r 23) (b := v1) (r := va_up r 7 (nI (chpF (q3 0) (iv (r 18)) (iv (r 19)) (r 20)))) hw hv 10 0 _ 0 r7 (by omega) (by omega) ?_ ?_ ?_ ?_ ?_ ?_ ?_ ?_ ?_ (fun r8 a1 a2 a3 a4 a5 => ?_)⟩
    any_goals (subst e7 e6 e5 e2; simp (disch := decide) only [va_up_self, va_up_ne]; first | done | assumption)
    · subst e7 e6 e5 e2
      exact ((kR.rf.up (by decide) _).up (by decide) _).up (by decide) _
    · have b18 : r8 18 = nI v := (a1 18 (by decide)).trans ((va_up_ne _ _ (by decide)).trans h18)
      simp (disch := first | decide | omega) only [b18, va_up_ne, va_up_self, li_2, li_3, li_4, li_5, li_6, li_7, li_8, li_9, li_10, li_12, li_14, li_20, li_26, li_30, li_31, li_36, li_38, li_47, li_48, li_50, li_57, li_58, li_80, li_98, li_99, li_100, li_102, li_104, li_105, li_108, li_109, li_110, li_114, li_115, li_119, li_122, li_137, li_146, li_147, li_148, li_149, li_150, li_200, li_255, li_256, li_274, li_510, li_512, li_640, li_999, li_1000, li_1024, li_3334, li_5000, li_9999, li_10000, li_23338, li_26672, li_30000, li_99999, li_150000, li_300000, pk_mul, nI_add, pk_sub, nI_clamp, nI_1, nI_p1, nI_a0, nI_0a, nI_m0, nI_m1, cl_0, cl_1, z01, z11, nI_leI, nI_ltI, nI_eq, nz_lt0, nz_le, nz_eq0, nz_pos, nz_le0, nz_eq1, nz_lt1, nz_ge1, nz_le1, nz_gt1, nz_vp, nz_vp0, nz_vp1, six_nI, vix_nI, bix_nI, pix_nI, fix_nI, gix_nI, rix_nI, zix_nI, pix_0, pix_1, bix_0, fix_0, fix_1, rix_1, true_and, and_true]
      refine ⟨by omega, by omega, fun r50 e50 => ?_⟩
      subst e50
      simp (disch := first | decide | omega) only [b18, va_up_ne, va_up_self, li_2, li_3, li_4, li_5, li_6, li_7, li_8, li_9, li_10, li_12, li_14, li_20, li_26, li_30, li_31, li_36, li_38, li_47, li_48, li_50, li_57, li_58, li_80, li_98, li_99, li_100, li_102, li_104, li_105, li_108, li_109, li_110, li_114, li_115, li_119, li_122, li_137, li_146, li_147, li_148, li_149, li_150, li_200, li_255, li_256, li_274, li_510, li_512, li_640, li_999, li_1000, li_1024, li_3334, li_5000, li_9999, li_10000, li_23338, li_26672, li_30000, li_99999, li_150000, li_300000, pk_mul, nI_add, pk_sub, nI_clamp, nI_1, nI_p1, nI_a0, nI_0a, nI_m0, nI_m1, cl_0, cl_1, z01, z11, nI_leI, nI_ltI, nI_eq, nz_lt0, nz_le, nz_eq0, nz_pos, nz_le0, nz_eq1, nz_lt1, nz_ge1, nz_le1, nz_gt1, nz_vp, nz_vp0, nz_vp1, six_nI, vix_nI, bix_nI, pix_nI, fix_nI, gix_nI, rix_nI, zix_nI, pix_0, pix_1, bix_0, fix_0, fix_1, rix_1, true_and, and_true]
      refine ⟨by omega, fun r52 e52 => ?_⟩
      subst e52
      simp (disch := first | decide | omega) only [b18, va_up_ne, va_up_self, li_2, li_3, li_4, li_5, li_6, li_7, li_8, li_9, li_10, li_12, li_14, li_20, li_26, li_30, li_31, li_36, li_38, li_47, li_48, li_50, li_57, li_58, li_80, li_98, li_99, li_100, li_102, li_104, li_105, li_108, li_109, li_110, li_114, li_115, li_119, li_122, li_137, li_146, li_147, li_148, li_149, li_150, li_200, li_255, li_256, li_274, li_510, li_512, li_640, li_999, li_1000, li_1024, li_3334, li_5000, li_9999, li_10000, li_23338, li_26672, li_30000, li_99999, li_150000, li_300000, pk_mul, nI_add, pk_sub, nI_clamp, nI_1, nI_p1, nI_a0, nI_0a, nI_m0, nI_m1, cl_0, cl_1, z01, z11, nI_leI, nI_ltI, nI_eq, nz_lt0, nz_le, nz_eq0, nz_pos, nz_le0, nz_eq1, nz_lt1, nz_ge1, nz_le1, nz_gt1, nz_vp, nz_vp0, nz_vp1, six_nI, vix_nI, bix_nI, pix_nI, fix_nI, gix_nI, rix_nI, zix_nI, pix_0, pix_1, bix_0, fix_0, fix_1, rix_1, true_and, and_true]
      have f25 : r7 25 = 0 := by subst e7 e6; simp (disch := decide) only [va_up_self, va_up_ne]
      have f28 : r7 28 = 0 := by subst e7; simp (disch := decide) only [va_up_self, va_up_ne]
      rw [f25, f28] at a4 a5
      unfold toF fuF exAC stF
      simp (disch := omega) only [h18, h19, nI_clamp] at e1 a2 ⊢
      rw [a3, a4, a5, e1]
      rw [va_up_self] at a2
      have k0 : kR r (va_up r 7 (nI (chpF (q3 0) v z (r 20)))) [7, 24, 25, 26, 27, 28] := kR.rf.up (by decide) _
      refine ⟨rfl, ((k0.tr ?_ (fun _ h => h) (fun _ h => h)).up (by decide) _).up (by decide) _, a2, ?_⟩
      · simpa (disch := omega) only [h18, h19, nI_clamp] using a1
      · repeat' (first | with_reducible rfl | with_reducible trivial | omega | with_reducible apply And.intro | rfl))

end S_R7S
