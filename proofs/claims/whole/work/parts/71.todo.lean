section S_TODO
def wb_X11_shares_12 (rec : Int32 → Int32 → Int64 → Int32 → (Nat → Int32) → (Nat → Nat → Int32) → Prop) (K55 : Int32 → Int32 → Int64 → (Nat → Int32) → (Nat → Nat → Int32) → Prop) (P : RST → Prop) (x1 : Int32) (x2 : Int32) (x3 : Int64) (x5 : Int32) (r : Nat → Int32) (q : Nat → Nat → Int32) : Prop := vp_in 1 3334 ∧ (((q 0 (Int32.toNatClampNeg 1)) ≤ x5 → (K55 x1 x2 x3 r q)) ∧ (¬ (q 0 (Int32.toNatClampNeg 1)) ≤ x5 → (((hasF x1 x5) = 0 → (∀ v6 : Int32, v6 = x5 + 1 → (rec x1 x2 x3 v6 r q))) ∧ (¬ (hasF x1 x5) = 0 → ((WF (q 0) ∧ gok (q 0) (1 <<< (x5 &&& 31))) ∧ (∀ (v7 : Int32) (r8 : Nat → Int32) (q9 : Nat → Nat → Int32), (v7 = nI (rsnD (q 0) (iv (1 <<< (x5 &&& 31)))).1 ∧ q9 = q ∧ kR r r8 [17, 18, 19, 20, 21, 22, 23] ∧ (¬ (rsnD (q 0) (iv (1 <<< (x5 &&& 31)))).1 = 0 → r8 17 = (rsnD (q 0) (iv (1 <<< (x5 &&& 31)))).2) ∧ ((rsnD (q 0) (iv (1 <<< (x5 &&& 31)))).1 = 0 → r8 18 = gvF (q 0) (iv (1 <<< (x5 &&& 31))) ∧ r8 19 = gzF (q 0) (iv (1 <<< (x5 &&& 31))) ∧ r8 20 = wtF (q 0) (iv (gvF (q 0) (iv (1 <<< (x5 &&& 31))))) (iv (1 <<< (x5 &&& 31))) ∧ r8 21 = pcF (q 0) (iv (gvF (q 0) (iv (1 <<< (x5 &&& 31))))) (iv (1 <<< (x5 &&& 31))) ∧ r8 22 = lgF (q 0) (iv (gvF (q 0) (iv (1 <<< (x5 &&& 31))))) (iv (1 <<< (x5 &&& 31))) ∧ r8 23 = hdF (q 0) (iv (gvF (q 0) (iv (1 <<< (x5 &&& 31))))) (iv (1 <<< (x5 &&& 31))))) → (∀ v11 : Int64, v11 = (x3 + ((r8 20)).toInt64) → (∀ v12 : Int32, v12 = x5 + 1 → (rec x1 x2 v11 v12 r8 q9)))))))))
def wp_X11_shares_12 (K55 : Int32 → Int32 → Int64 → (Nat → Int32) → (Nat → Nat → Int32) → Prop) (P : RST → Prop) : Nat → Int32 → Int32 → Int64 → Int32 → (Nat → Int32) → (Nat → Nat → Int32) → Prop
  | 0 => fun _ _ _ _ _ _ => False
  | n + 1 => fun x1 x2 x3 x5 r q => wb_X11_shares_12 (wp_X11_shares_12 K55 P n) K55 P x1 x2 x3 x5 r q
set_option maxRecDepth 100000 in
set_option maxHeartbeats 4000000 in
theorem t_X11_shares_12 {p : Program} {l : Launch} {e : Env} {s : State} {m : MethodId} {args : Array Value} {below : List Frame} {meth : Method} {c : Code} {D : va_G} {A : Nat → Prop} {T : Nat → ClassId} {m0 : Nat} {a : Nat → Nat} (C : GC p s m args meth c cX11_shares "FreightRaterModel" (ws_X11_shares) 8 D A (zty T)) (hr : meth.sig.returnType = none) (K55 : Int32 → Int32 → Int64 → (Nat → Int32) → (Nat → Nat → Int32) → Prop) (P : RST → Prop) (hK55 : ∀ (x1 : Int32) (x2 : Int32) (x3 : Int64) (r : Nat → Int32) (q : Nat → Nat → Int32), K55 x1 x2 x3 r q → GW p l e rm_X11_shares s m args below meth c D A 8 0 0 (MQ below (va_Qv P (RE D T m0 a A) A) args s 0 0 A) (RW m0 a T r q) 0 0 55 [(0, .ref m0), (1, .int x1), (2, .int x2), (3, .long x3)] []) : ∀ (n : Nat) (x1 : Int32) (x2 : Int32) (x3 : Int64) (x5 : Int32) (r : Nat → Int32) (q : Nat → Nat → Int32), wp_X11_shares_12 K55 P n x1 x2 x3 x5 r q → GW p l e rm_X11_shares s m args below meth c D A 8 0 0 (MQ below (va_Qv P (RE D T m0 a A) A) args s 0 0 A) (RW m0 a T r q) 0 0 12 [(0, .ref m0), (1, .int x1), (2, .int x2), (3, .long x3), (5, .int x5)] [] := by
  have hw : ∀ {w : Cond}, w ∈ W0 → w.before args s = true := fun h => C.2.2.2.2.1 _ (List.mem_cons_of_mem _ h)
  intro n
  induction n with
  | zero => intro x1 x2 x3 x5 r q h; exact h.elim
  | succ n ih =>
    intro x1 x2 x3 x5 r q h
    replace h : wb_X11_shares_12 (wp_X11_shares_12 K55 P n) K55 P x1 x2 x3 x5 r q := h
    unfold wb_X11_shares_12 at h
    refine g_iload C dX11_shares_12 4 rfl ?_
    refine g_aload_n C dX11_shares_14 rfl 0 rfl ?_
    refine gr_get C iwx_X11 0 (hw kw_1809) (by decide) rfl rfl dX11_shares_15 ?_
    refine g_iconst (v := 1) C dX11_shares_18 (by decide) ?_
    obtain ⟨g3, h⟩ := h
    refine gr_ald_0 C g3 dX11_shares_19 ?_
    refine g_icmp_ge (tgt := 55) C dX11_shares_20 (by decide) (fun z4 => ?_) (fun z4 => ?_)
    · replace h := h.1 z4
      refine g_locals [0, 1, 2, 3] rfl ?_
      exact hK55 x1 x2 x3 r q h
    · replace h := h.2 z4
      refine g_iload_n C dX11_shares_23 rfl 1 rfl ?_
      refine g_iload C dX11_shares_24 4 rfl ?_
      refine gr_callSf C [.int x1, .int x5] rfl (k_X11_has l D T m0 a x1 x5 r q) (w0_S 2 C.2.2.2.2.1 kw_2178 kw_2179 kw_9 kw_2180 rfl rfl (by decide +kernel) ⟨by decide, by decide⟩) rfl (Nat.le_of_ble_eq_true rfl) (Nat.zero_le _) (Nat.zero_le _) dX11_shares_26 ?_
      refine g_if_eq (tgt := 49) C dX11_shares_29 (by decide) (fun z5 => ?_) (fun z5 => ?_)
      · replace h := h.1 z5
        obtain ⟨v6, ev6⟩ : ∃ y : Int32, y = x5 + 1 := ⟨_, rfl⟩
        replace h := h v6 ev6
        refine g_iinc (v := v6) (lv' := [(5, .int v6), (0, .ref m0), (1, .int x1), (2, .int x2), (3, .long x3)]) C dX11_shares_49 (j := 4) rfl (by rw [ev6]; rfl) (by decide) rfl ?_
        refine g_goto (tgt := 12) C dX11_shares_52 (by decide) ?_
        refine g_locals [1, 2, 3, 4, 0] rfl ?_
        exact ih x1 x2 x3 v6 r q h
      · replace h := h.2 z5
        refine g_aload_n C dX11_shares_32 rfl 0 rfl ?_
        refine g_iconst (v := 1) C dX11_shares_33 (by decide) ?_
        refine g_iload C dX11_shares_34 4 rfl ?_
        refine g_ishl C dX11_shares_36 ?_
        obtain ⟨g10, h⟩ := h
        refine gr_calliV C [.int (1 <<< (x5 &&& 31))] rfl (k_X11_reasonOf l D T m0 a (1 <<< (x5 &&& 31)) r q g10) (w0_V 1 C.2.2.2.2.1 kw_2171 kw_2173 ks_86 kw_9 kw_2174 rfl rfl (by decide +kernel) ⟨by decide, by decide⟩) rfl (Nat.le_of_ble_eq_true rfl) (Nat.zero_le _) (Nat.zero_le _) dX11_shares_37 (fun v7 r8 q9 hp => ?_)
        replace h := h v7 r8 q9 hp
        refine g_pop C dX11_shares_40 rfl ?_
        refine g_lload_n C dX11_shares_41 rfl 3 rfl ?_
        refine g_aload_n C dX11_shares_42 rfl 0 rfl ?_
        refine gr_get C iwx_X11 20 (hw kw_1829) (by decide) rfl rfl dX11_shares_43 ?_
        refine g_i2l C dX11_shares_46 rfl ?_
        refine g_ladd C dX11_shares_47 ?_
        refine g_topl (fun v11 ev11 => ?_)
        replace h := h v11 ev11
        refine g_lstore_n (lv' := [(3, .long v11), (0, .ref m0), (1, .int x1), (2, .int x2), (5, .int x5)]) C dX11_shares_48 rfl (by decide) rfl ?_
        obtain ⟨v12, ev12⟩ : ∃ y : Int32, y = x5 + 1 := ⟨_, rfl⟩
        replace h := h v12 ev12
        refine g_iinc (v := v12) (lv' := [(5, .int v12), (3, .long v11), (0, .ref m0), (1, .int x1), (2, .int x2)]) C dX11_shares_49 (j := 4) rfl (by rw [ev12]; rfl) (by decide) rfl ?_
        refine g_goto (tgt := 12) C dX11_shares_52 (by decide) ?_
        refine g_locals [2, 3, 4, 1, 0] rfl ?_
        exact ih x1 x2 v11 v12 r8 q9 h
def wb_X11_shares_61 (rec : Int32 → Int32 → Int64 → Int32 → Int32 → (Nat → Int32) → (Nat → Nat → Int32) → Prop) (K133 : Int32 → Int32 → (Nat → Int32) → (Nat → Nat → Int32) → Prop) (P : RST → Prop) (x1 : Int32) (x2 : Int32) (x3 : Int64) (x5 : Int32) (x6 : Int32) (r : Nat → Int32) (q : Nat → Nat → Int32) : Prop := vp_in 1 3334 ∧ (((q 0 (Int32.toNatClampNeg 1)) ≤ x6 → (K133 x1 x5 r q)) ∧ (¬ (q 0 (Int32.toNatClampNeg 1)) ≤ x6 → (((hasF x1 x6) = 0 → (∀ v21 : Int32, v21 = x6 + 1 → (rec x1 x2 x3 x5 v21 r q))) ∧ (¬ (hasF x1 x6) = 0 → ((WF (q 0) ∧ gok (q 0) (1 <<< (x6 &&& 31))) ∧ (∀ (v22 : Int32) (r23 : Nat → Int32) (q24 : Nat → Nat → Int32), (v22 = nI (rsnD (q 0) (iv (1 <<< (x6 &&& 31)))).1 ∧ q24 = q ∧ kR r r23 [17, 18, 19, 20, 21, 22, 23] ∧ (¬ (rsnD (q 0) (iv (1 <<< (x6 &&& 31)))).1 = 0 → r23 17 = (rsnD (q 0) (iv (1 <<< (x6 &&& 31)))).2) ∧ ((rsnD (q 0) (iv (1 <<< (x6 &&& 31)))).1 = 0 → r23 18 = gvF (q 0) (iv (1 <<< (x6 &&& 31))) ∧ r23 19 = gzF (q 0) (iv (1 <<< (x6 &&& 31))) ∧ r23 20 = wtF (q 0) (iv (gvF (q 0) (iv (1 <<< (x6 &&& 31))))) (iv (1 <<< (x6 &&& 31))) ∧ r23 21 = pcF (q 0) (iv (gvF (q 0) (iv (1 <<< (x6 &&& 31))))) (iv (1 <<< (x6 &&& 31))) ∧ r23 22 = lgF (q 0) (iv (gvF (q 0) (iv (1 <<< (x6 &&& 31))))) (iv (1 <<< (x6 &&& 31))) ∧ r23 23 = hdF (q 0) (iv (gvF (q 0) (iv (1 <<< (x6 &&& 31))))) (iv (1 <<< (x6 &&& 31))))) → (¬ x3 = 0 ∧ (∀ v27 : Int32, v27 = ((((x2).toInt64 * ((r23 20)).toInt64) / x3)).toInt32 → (vp_in ((14 + (26 * x6)) + 5) 3334 ∧ (∀ q29 : Nat → Nat → Int32, q29 = va_up q24 0 (upd (q24 0) (Int32.toNatClampNeg ((14 + (26 * x6)) + 5)) v27) → (∀ v30 : Int32, v30 = (x5 - v27) → (∀ v31 : Int32, v31 = x6 + 1 → (rec x1 x2 x3 v30 v31 r23 q29)))))))))))))
def wp_X11_shares_61 (K133 : Int32 → Int32 → (Nat → Int32) → (Nat → Nat → Int32) → Prop) (P : RST → Prop) : Nat → Int32 → Int32 → Int64 → Int32 → Int32 → (Nat → Int32) → (Nat → Nat → Int32) → Prop
  | 0 => fun _ _ _ _ _ _ _ => False
  | n + 1 => fun x1 x2 x3 x5 x6 r q => wb_X11_shares_61 (wp_X11_shares_61 K133 P n) K133 P x1 x2 x3 x5 x6 r q
set_option maxRecDepth 100000 in
set_option maxHeartbeats 4000000 in
theorem t_X11_shares_61 {p : Program} {l : Launch} {e : Env} {s : State} {m : MethodId} {args : Array Value} {below : List Frame} {meth : Method} {c : Code} {D : va_G} {A : Nat → Prop} {T : Nat → ClassId} {m0 : Nat} {a : Nat → Nat} (C : GC p s m args meth c cX11_shares "FreightRaterModel" (ws_X11_shares) 8 D A (zty T)) (hr : meth.sig.returnType = none) (K133 : Int32 → Int32 → (Nat → Int32) → (Nat → Nat → Int32) → Prop) (P : RST → Prop) (hK133 : ∀ (x1 : Int32) (x5 : Int32) (r : Nat → Int32) (q : Nat → Nat → Int32), K133 x1 x5 r q → GW p l e rm_X11_shares s m args below meth c D A 8 0 0 (MQ below (va_Qv P (RE D T m0 a A) A) args s 0 0 A) (RW m0 a T r q) 0 0 133 [(0, .ref m0), (1, .int x1), (5, .int x5)] []) : ∀ (n : Nat) (x1 : Int32) (x2 : Int32) (x3 : Int64) (x5 : Int32) (x6 : Int32) (r : Nat → Int32) (q : Nat → Nat → Int32), wp_X11_shares_61 K133 P n x1 x2 x3 x5 x6 r q → GW p l e rm_X11_shares s m args below meth c D A 8 0 0 (MQ below (va_Qv P (RE D T m0 a A) A) args s 0 0 A) (RW m0 a T r q) 0 0 61 [(0, .ref m0), (1, .int x1), (2, .int x2), (3, .long x3), (5, .int x5), (6, .int x6)] [] := by
  have hw : ∀ {w : Cond}, w ∈ W0 → w.before args s = true := fun h => C.2.2.2.2.1 _ (List.mem_cons_of_mem _ h)
  intro n
  induction n with
  | zero => intro x1 x2 x3 x5 x6 r q h; exact h.elim
  | succ n ih =>
    intro x1 x2 x3 x5 x6 r q h
    replace h : wb_X11_shares_61 (wp_X11_shares_61 K133 P n) K133 P x1 x2 x3 x5 x6 r q := h
    unfold wb_X11_shares_61 at h
    refine g_iload C dX11_shares_61 5 rfl ?_
    refine g_aload_n C dX11_shares_63 rfl 0 rfl ?_
    refine gr_get C iwx_X11 0 (hw kw_1809) (by decide) rfl rfl dX11_shares_64 ?_
    refine g_iconst (v := 1) C dX11_shares_67 (by decide) ?_
    obtain ⟨g18, h⟩ := h
    refine gr_ald_0 C g18 dX11_shares_68 ?_
    refine g_icmp_ge (tgt := 133) C dX11_shares_69 (by decide) (fun z19 => ?_) (fun z19 => ?_)
    · replace h := h.1 z19
      refine g_locals [0, 1, 4] rfl ?_
      exact hK133 x1 x5 r q h
    · replace h := h.2 z19
      refine g_iload_n C dX11_shares_72 rfl 1 rfl ?_
      refine g_iload C dX11_shares_73 5 rfl ?_
      refine gr_callSf C [.int x1, .int x6] rfl (k_X11_has l D T m0 a x1 x6 r q) (w0_S 2 C.2.2.2.2.1 kw_2178 kw_2179 kw_9 kw_2180 rfl rfl (by decide +kernel) ⟨by decide, by decide⟩) rfl (Nat.le_of_ble_eq_true rfl) (Nat.zero_le _) (Nat.zero_le _) dX11_shares_75 ?_
      refine g_if_eq (tgt := 127) C dX11_shares_78 (by decide) (fun z20 => ?_) (fun z20 => ?_)
      · replace h := h.1 z20
        obtain ⟨v21, ev21⟩ : ∃ y : Int32, y = x6 + 1 := ⟨_, rfl⟩
        replace h := h v21 ev21
        refine g_iinc (v := v21) (lv' := [(6, .int v21), (0, .ref m0), (1, .int x1), (2, .int x2), (3, .long x3), (5, .int x5)]) C dX11_shares_127 (j := 5) rfl (by rw [ev21]; rfl) (by decide) rfl ?_
        refine g_goto (tgt := 61) C dX11_shares_130 (by decide) ?_
        refine g_locals [1, 2, 3, 4, 5, 0] rfl ?_
        exact ih x1 x2 x3 x5 v21 r q h
      · replace h := h.2 z20
        refine g_aload_n C dX11_shares_81 rfl 0 rfl ?_
        refine g_iconst (v := 1) C dX11_shares_82 (by decide) ?_
        refine g_iload C dX11_shares_83 5 rfl ?_
        refine g_ishl C dX11_shares_85 ?_
        obtain ⟨g25, h⟩ := h
        refine gr_calliV C [.int (1 <<< (x6 &&& 31))] rfl (k_X11_reasonOf l D T m0 a (1 <<< (x6 &&& 31)) r q g25) (w0_V 1 C.2.2.2.2.1 kw_2171 kw_2173 ks_86 kw_9 kw_2174 rfl rfl (by decide +kernel) ⟨by decide, by decide⟩) rfl (Nat.le_of_ble_eq_true rfl) (Nat.zero_le _) (Nat.zero_le _) dX11_shares_86 (fun v22 r23 q24 hp => ?_)
        replace h := h v22 r23 q24 hp
        refine g_pop C dX11_shares_89 rfl ?_
        refine g_iload_n C dX11_shares_90 rfl 2 rfl ?_
        refine g_i2l C dX11_shares_91 rfl ?_
        refine g_aload_n C dX11_shares_92 rfl 0 rfl ?_
        refine gr_get C iwx_X11 20 (hw kw_1829) (by decide) rfl rfl dX11_shares_93 ?_
        refine g_i2l C dX11_shares_96 rfl ?_
        refine g_lmul C dX11_shares_97 ?_
        refine g_lload_n C dX11_shares_98 rfl 3 rfl ?_
        obtain ⟨g26, h⟩ := h
        refine g_ldiv C dX11_shares_99 g26 ?_
        refine g_l2i C dX11_shares_100 rfl ?_
        refine g_topi (fun v27 ev27 => ?_)
        replace h := h v27 ev27
        refine g_istore (lv' := [(7, .int v27), (0, .ref m0), (1, .int x1), (2, .int x2), (3, .long x3), (5, .int x5), (6, .int x6)]) C dX11_shares_101 (by decide) rfl ?_
        refine g_aload_n C dX11_shares_103 rfl 1 rfl ?_
        refine gr_get C iwx_X11 0 (hw kw_1809) (by decide) rfl rfl dX11_shares_104 ?_
        refine g_bipush (v := 14) C dX11_shares_107 (by decide) ?_
        refine g_bipush (v := 26) C dX11_shares_109 (by decide) ?_
        refine g_iload C dX11_shares_111 6 rfl ?_
        refine g_imul C dX11_shares_113 ?_
        refine g_iadd C dX11_shares_114 ?_
        refine g_iconst (v := 5) C dX11_shares_115 (by decide) ?_
        refine g_iadd C dX11_shares_116 ?_
        refine g_iload C dX11_shares_117 0 rfl ?_
        obtain ⟨g28, h⟩ := h
        refine gr_ast_0 C g28 dX11_shares_119 ?_
        refine gr_nq (fun q29 eq29 => ?_)
        replace h := h q29 eq29
        refine g_iload C dX11_shares_120 5 rfl ?_
        refine g_iload C dX11_shares_122 0 rfl ?_
        refine g_isub C dX11_shares_124 ?_
        refine g_topi (fun v30 ev30 => ?_)
        replace h := h v30 ev30
        refine g_istore (lv' := [(5, .int v30), (7, .int v27), (0, .ref m0), (1, .int x1), (2, .int x2), (3, .long x3), (6, .int x6)]) C dX11_shares_125 (by decide) rfl ?_
        obtain ⟨v31, ev31⟩ : ∃ y : Int32, y = x6 + 1 := ⟨_, rfl⟩
        replace h := h v31 ev31
        refine g_iinc (v := v31) (lv' := [(6, .int v31), (5, .int v30), (7, .int v27), (0, .ref m0), (1, .int x1), (2, .int x2), (3, .long x3)]) C dX11_shares_127 (j := 6) rfl (by rw [ev31]; rfl) (by decide) rfl ?_
        refine g_goto (tgt := 61) C dX11_shares_130 (by decide) ?_
        refine g_locals [3, 4, 5, 6, 1, 0] rfl ?_
        exact ih x1 x2 x3 v30 v31 r23 q29 h
def wb_X11_shares_136 (rec : Int32 → Int32 → Int32 → (Nat → Int32) → (Nat → Nat → Int32) → Prop) (P : RST → Prop) (x1 : Int32) (x5 : Int32) (x6 : Int32) (r : Nat → Int32) (q : Nat → Nat → Int32) : Prop := vp_in 1 3334 ∧ (((q 0 (Int32.toNatClampNeg 1)) ≤ x6 → (P (r, q))) ∧ (¬ (q 0 (Int32.toNatClampNeg 1)) ≤ x6 → (((hasF x1 x6) = 0 → (∀ v39 : Int32, v39 = x6 + 1 → (rec x1 x5 v39 r q))) ∧ (¬ (hasF x1 x6) = 0 → ((x5 ≤ 0 → (∀ v41 : Int32, v41 = x6 + 1 → (rec x1 x5 v41 r q))) ∧ (¬ x5 ≤ 0 → (vp_in ((14 + (26 * x6)) + 5) 3334 ∧ (vp_in ((14 + (26 * x6)) + 5) 3334 ∧ (∀ q44 : Nat → Nat → Int32, q44 = va_up q 0 (upd (q 0) (Int32.toNatClampNeg ((14 + (26 * x6)) + 5)) ((q 0 (Int32.toNatClampNeg ((14 + (26 * x6)) + 5))) + 1)) → (∀ v45 : Int32, v45 = x5 + (-1) → (∀ v46 : Int32, v46 = x6 + 1 → (rec x1 v45 v46 r q44))))))))))))
def wp_X11_shares_136 (P : RST → Prop) : Nat → Int32 → Int32 → Int32 → (Nat → Int32) → (Nat → Nat → Int32) → Prop
  | 0 => fun _ _ _ _ _ => False
  | n + 1 => fun x1 x5 x6 r q => wb_X11_shares_136 (wp_X11_shares_136  P n)  P x1 x5 x6 r q
set_option maxRecDepth 100000 in
set_option maxHeartbeats 4000000 in
theorem t_X11_shares_136 {p : Program} {l : Launch} {e : Env} {s : State} {m : MethodId} {args : Array Value} {below : List Frame} {meth : Method} {c : Code} {D : va_G} {A : Nat → Prop} {T : Nat → ClassId} {m0 : Nat} {a : Nat → Nat} (C : GC p s m args meth c cX11_shares "FreightRaterModel" (ws_X11_shares) 8 D A (zty T)) (hr : meth.sig.returnType = none) (P : RST → Prop) : ∀ (n : Nat) (x1 : Int32) (x5 : Int32) (x6 : Int32) (r : Nat → Int32) (q : Nat → Nat → Int32), wp_X11_shares_136  P n x1 x5 x6 r q → GW p l e rm_X11_shares s m args below meth c D A 8 0 0 (MQ below (va_Qv P (RE D T m0 a A) A) args s 0 0 A) (RW m0 a T r q) 0 0 136 [(0, .ref m0), (1, .int x1), (5, .int x5), (6, .int x6)] [] := by
  have hw : ∀ {w : Cond}, w ∈ W0 → w.before args s = true := fun h => C.2.2.2.2.1 _ (List.mem_cons_of_mem _ h)
  intro n
  induction n with
  | zero => intro x1 x5 x6 r q h; exact h.elim
  | succ n ih =>
    intro x1 x5 x6 r q h
    replace h : wb_X11_shares_136 (wp_X11_shares_136  P n)  P x1 x5 x6 r q := h
    unfold wb_X11_shares_136 at h
    refine g_iload C dX11_shares_136 3 rfl ?_
    refine g_aload_n C dX11_shares_138 rfl 0 rfl ?_
    refine gr_get C iwx_X11 0 (hw kw_1809) (by decide) rfl rfl dX11_shares_139 ?_
    refine g_iconst (v := 1) C dX11_shares_142 (by decide) ?_
    obtain ⟨g36, h⟩ := h
    refine gr_ald_0 C g36 dX11_shares_143 ?_
    refine g_icmp_ge (tgt := 189) C dX11_shares_144 (by decide) (fun z37 => ?_) (fun z37 => ?_)
    · replace h := h.1 z37
      exact gr_vret C hr dX11_shares_189 h
    · replace h := h.2 z37
      refine g_iload_n C dX11_shares_147 rfl 1 rfl ?_
      refine g_iload C dX11_shares_148 3 rfl ?_
      refine gr_callSf C [.int x1, .int x6] rfl (k_X11_has l D T m0 a x1 x6 r q) (w0_S 2 C.2.2.2.2.1 kw_2178 kw_2179 kw_9 kw_2180 rfl rfl (by decide +kernel) ⟨by decide, by decide⟩) rfl (Nat.le_of_ble_eq_true rfl) (Nat.zero_le _) (Nat.zero_le _) dX11_shares_150 ?_
      refine g_if_eq (tgt := 183) C dX11_shares_153 (by decide) (fun z38 => ?_) (fun z38 => ?_)
      · replace h := h.1 z38
        obtain ⟨v39, ev39⟩ : ∃ y : Int32, y = x6 + 1 := ⟨_, rfl⟩
        replace h := h v39 ev39
        refine g_iinc (v := v39) (lv' := [(6, .int v39), (0, .ref m0), (1, .int x1), (5, .int x5)]) C dX11_shares_183 (j := 3) rfl (by rw [ev39]; rfl) (by decide) rfl ?_
        refine g_goto (tgt := 136) C dX11_shares_186 (by decide) ?_
        refine g_locals [1, 2, 3, 0] rfl ?_
        exact ih x1 x5 v39 r q h
      · replace h := h.2 z38
        refine g_iload C dX11_shares_156 2 rfl ?_
        refine g_if_le (tgt := 183) C dX11_shares_158 (by decide) (fun z40 => ?_) (fun z40 => ?_)
        · replace h := h.1 z40
          obtain ⟨v41, ev41⟩ : ∃ y : Int32, y = x6 + 1 := ⟨_, rfl⟩
          replace h := h v41 ev41
          refine g_iinc (v := v41) (lv' := [(6, .int v41), (0, .ref m0), (1, .int x1), (5, .int x5)]) C dX11_shares_183 (j := 3) rfl (by rw [ev41]; rfl) (by decide) rfl ?_
          refine g_goto (tgt := 136) C dX11_shares_186 (by decide) ?_
          refine g_locals [1, 2, 3, 0] rfl ?_
          exact ih x1 x5 v41 r q h
        · replace h := h.2 z40
          refine g_aload_n C dX11_shares_161 rfl 0 rfl ?_
          refine gr_get C iwx_X11 0 (hw kw_1809) (by decide) rfl rfl dX11_shares_162 ?_
          refine g_bipush (v := 14) C dX11_shares_165 (by decide) ?_
          refine g_bipush (v := 26) C dX11_shares_167 (by decide) ?_
          refine g_iload C dX11_shares_169 3 rfl ?_
          refine g_imul C dX11_shares_171 ?_
          refine g_iadd C dX11_shares_172 ?_
          refine g_iconst (v := 5) C dX11_shares_173 (by decide) ?_
          refine g_iadd C dX11_shares_174 ?_
          refine g_dup2 C dX11_shares_175 rfl rfl ?_
          obtain ⟨g42, h⟩ := h
          refine gr_ald_0 C g42 dX11_shares_176 ?_
          refine g_iconst (v := 1) C dX11_shares_177 (by decide) ?_
          refine g_iadd C dX11_shares_178 ?_
          obtain ⟨g43, h⟩ := h
          refine gr_ast_0 C g43 dX11_shares_179 ?_
          refine gr_nq (fun q44 eq44 => ?_)
          replace h := h q44 eq44
          obtain ⟨v45, ev45⟩ : ∃ y : Int32, y = x5 + (-1) := ⟨_, rfl⟩
          replace h := h v45 ev45
          refine g_iinc (v := v45) (lv' := [(5, .int v45), (0, .ref m0), (1, .int x1), (6, .int x6)]) C dX11_shares_180 (j := 2) rfl (by rw [ev45]; rfl) (by decide) rfl ?_
          obtain ⟨v46, ev46⟩ : ∃ y : Int32, y = x6 + 1 := ⟨_, rfl⟩
          replace h := h v46 ev46
          refine g_iinc (v := v46) (lv' := [(6, .int v46), (5, .int v45), (0, .ref m0), (1, .int x1)]) C dX11_shares_183 (j := 3) rfl (by rw [ev46]; rfl) (by decide) rfl ?_
          refine g_goto (tgt := 136) C dX11_shares_186 (by decide) ?_
          refine g_locals [2, 3, 1, 0] rfl ?_
          exact ih x1 v45 v46 r q44 h
def wp_X11_shares (P : RST → Prop) (p0 : Int32) (r : Nat → Int32) (q : Nat → Nat → Int32) : Prop := vp_in p0 1024 ∧ (∀ v2 : Int32, v2 = (q 7 (Int32.toNatClampNeg p0)) → (∃ k49 : Nat, wp_X11_shares_12 (fun (y13 : Int32) (y14 : Int32) (y15 : Int64) (r16 : Nat → Int32) (q17 : Nat → Nat → Int32) => ∃ k48 : Nat, wp_X11_shares_61 (fun (y32 : Int32) (y33 : Int32) (r34 : Nat → Int32) (q35 : Nat → Nat → Int32) => ∃ k47 : Nat, wp_X11_shares_136  P k47 y32 y33 0 r34 q35) P k48 y13 y14 y15 y14 0 r16 q17) P k49 p0 v2 0 0 r q))
set_option maxRecDepth 100000 in
set_option maxHeartbeats 4000000 in
theorem t_X11_shares {p : Program} {l : Launch} {e : Env} {s : State} {m : MethodId} {args : Array Value} {below : List Frame} {meth : Method} {c : Code} {D : va_G} {A : Nat → Prop} {T : Nat → ClassId} {m0 : Nat} {a : Nat → Nat} (C : GC p s m args meth c cX11_shares "FreightRaterModel" (ws_X11_shares) 8 D A (zty T)) (hr : meth.sig.returnType = none) (P : RST → Prop) : ∀ (p0 : Int32) (r : Nat → Int32) (q : Nat → Nat → Int32), wp_X11_shares P p0 r q → GW p l e rm_X11_shares s m args below meth c D A 8 0 0 (MQ below (va_Qv P (RE D T m0 a A) A) args s 0 0 A) (RW m0 a T r q) 0 0 0 [(0, .ref m0), (1, .int p0)] [] := by
  have hw : ∀ {w : Cond}, w ∈ W0 → w.before args s = true := fun h => C.2.2.2.2.1 _ (List.mem_cons_of_mem _ h)
  intro p0 r q h
  unfold wp_X11_shares at h
  refine g_aload_n C dX11_shares_0 rfl 0 rfl ?_
  refine gr_get C iwx_X11 31 (hw kw_1840) (by decide) rfl rfl dX11_shares_1 ?_
  refine g_iload_n C dX11_shares_4 rfl 1 rfl ?_
  obtain ⟨g1, h⟩ := h
  refine gr_ald_7 C g1 dX11_shares_5 ?_
  refine g_topi (fun v2 ev2 => ?_)
  replace h := h v2 ev2
  refine g_istore_n (lv' := [(2, .int v2), (0, .ref m0), (1, .int p0)]) C dX11_shares_6 rfl (by decide) rfl ?_
  refine g_lconst (v := 0) C dX11_shares_7 rfl ?_
  refine g_lstore_n (lv' := [(3, .long 0), (2, .int v2), (0, .ref m0), (1, .int p0)]) C dX11_shares_8 rfl (by decide) rfl ?_
  refine g_iconst (v := 0) C dX11_shares_9 (by decide) ?_
  refine g_istore (lv' := [(5, .int 0), (3, .long 0), (2, .int v2), (0, .ref m0), (1, .int p0)]) C dX11_shares_10 (by decide) rfl ?_
  refine g_locals [3, 4, 2, 1, 0] rfl ?_
  obtain ⟨k49, h⟩ := h
  refine t_X11_shares_12 C hr _ P ?_ k49 p0 v2 0 0 r q h
  · intro y13 y14 y15 r16 q17 h
    refine g_iload_n C dX11_shares_55 rfl 2 rfl ?_
    refine g_istore (lv' := [(5, .int y14), (0, .ref m0), (1, .int y13), (2, .int y14), (3, .long y15)]) C dX11_shares_56 (by decide) rfl ?_
    refine g_iconst (v := 0) C dX11_shares_58 (by decide) ?_
    refine g_istore (lv' := [(6, .int 0), (5, .int y14), (0, .ref m0), (1, .int y13), (2, .int y14), (3, .long y15)]) C dX11_shares_59 (by decide) rfl ?_
    refine g_locals [2, 3, 4, 5, 1, 0] rfl ?_
    obtain ⟨k48, h⟩ := h
    refine t_X11_shares_61 C hr _ P ?_ k48 y13 y14 y15 y14 0 r16 q17 h
    · intro y32 y33 r34 q35 h
      refine g_iconst (v := 0) C dX11_shares_133 (by decide) ?_
      refine g_istore (lv' := [(6, .int 0), (0, .ref m0), (1, .int y32), (5, .int y33)]) C dX11_shares_134 (by decide) rfl ?_
      refine g_locals [1, 2, 3, 0] rfl ?_
      obtain ⟨k47, h⟩ := h
      refine t_X11_shares_136 C hr  P  k47 y32 y33 0 r34 q35 h
theorem c_X11_shares (l : Launch) (D : va_G) (T : Nat → ClassId) (m0 : Nat) (a : Nat → Nat) (p0 : Int32) (r : Nat → Int32) (q : Nat → Nat → Int32) (P : RST → Prop) (h : wp_X11_shares P p0 r q) : RMv l yX11_shares (ws_X11_shares) rm_X11_shares D T m0 a [.ref m0, .int p0] r q P := gr_metv (by decide) rfl rfl (Nat.le_of_ble_eq_true rfl) (fun p e s m args below meth c A C hr => t_X11_shares C hr P p0 r q h)
def wb_X11_post_74 (rec : Int32 → Int32 → (Nat → Int32) → (Nat → Nat → Int32) → Prop) (P : Int32 → RST → Prop) (x1 : Int32) (x2 : Int32) (r : Nat → Int32) (q : Nat → Nat → Int32) : Prop := (x2 = 0 → (vp_in x1 1024 ∧ (P (q 8 (Int32.toNatClampNeg x1)) (r, q)))) ∧ (¬ x2 = 0 → (vp_in x2 1024 ∧ ((WF (q 0) ∧ gok (q 0) (q 10 (Int32.toNatClampNeg x2)) ∧ sg0 (q 0) (iv (q 10 (Int32.toNatClampNeg x2))) ∧ bn (q 7 (iv (q 10 (Int32.toNatClampNeg x2)))) 1000000000) ∧ (∀ (r25 : Nat → Int32) (q26 : Nat → Nat → Int32), (kR r r25 [17, 18, 19, 20, 21, 22, 23] ∧ kQ q q26 [0] ∧ q26 0 = shrF (q 0) (iv (q 10 (Int32.toNatClampNeg x2))) (iv (q 7 (iv (q 10 (Int32.toNatClampNeg x2)))))) → (vp_in 3 3334 ∧ (vp_in 3 3334 ∧ (∀ q30 : Nat → Nat → Int32, q30 = va_up q26 0 (upd (q26 0) (Int32.toNatClampNeg 3) ((q26 0 (Int32.toNatClampNeg 3)) + 1)) → (vp_in x2 1024 ∧ (∀ v32 : Int32, v32 = (x2 &&& ((q30 10 (Int32.toNatClampNeg x2)) ^^^ (-1))) → (rec x1 v32 r25 q30))))))))))
def wp_X11_post_74 (P : Int32 → RST → Prop) : Nat → Int32 → Int32 → (Nat → Int32) → (Nat → Nat → Int32) → Prop
  | 0 => fun _ _ _ _ => False
  | n + 1 => fun x1 x2 r q => wb_X11_post_74 (wp_X11_post_74  P n)  P x1 x2 r q
set_option maxRecDepth 100000 in
set_option maxHeartbeats 4000000 in
theorem t_X11_post_74 {p : Program} {l : Launch} {e : Env} {s : State} {m : MethodId} {args : Array Value} {below : List Frame} {meth : Method} {c : Code} {D : va_G} {A : Nat → Prop} {T : Nat → ClassId} {m0 : Nat} {a : Nat → Nat} (C : GC p s m args meth c cX11_post "FreightRaterModel" (ws_X11_post) 3 D A (zty T)) (hr : meth.sig.returnType = (some .int)) (P : Int32 → RST → Prop) : ∀ (n : Nat) (x1 : Int32) (x2 : Int32) (r : Nat → Int32) (q : Nat → Nat → Int32), wp_X11_post_74  P n x1 x2 r q → GW p l e rm_X11_post s m args below meth c D A 3 0 0 (MQ below (va_Qi P (RE D T m0 a A) A) args s 0 0 A) (RW m0 a T r q) 0 0 74 [(0, .ref m0), (1, .int x1), (2, .int x2)] [] := by
  have hw : ∀ {w : Cond}, w ∈ W0 → w.before args s = true := fun h => C.2.2.2.2.1 _ (List.mem_cons_of_mem _ h)
  intro n
  induction n with
  | zero => intro x1 x2 r q h; exact h.elim
  | succ n ih =>
    intro x1 x2 r q h
    replace h : wb_X11_post_74 (wp_X11_post_74  P n)  P x1 x2 r q := h
    unfold wb_X11_post_74 at h
    refine g_iload_n C dX11_post_74 rfl 2 rfl ?_
    refine g_if_eq (tgt := 112) C dX11_post_75 (by decide) (fun z21 => ?_) (fun z21 => ?_)
    · replace h := h.1 z21
      refine g_aload_n C dX11_post_112 rfl 0 rfl ?_
      refine gr_get C iwx_X11 32 (hw kw_1841) (by decide) rfl rfl dX11_post_113 ?_
      refine g_iload_n C dX11_post_116 rfl 1 rfl ?_
      obtain ⟨g22, h⟩ := h
      refine gr_ald_8 C g22 dX11_post_117 ?_
      exact gr_iret C hr dX11_post_118 h
    · replace h := h.2 z21
      refine g_aload_n C dX11_post_78 rfl 0 rfl ?_
      refine g_aload_n C dX11_post_79 rfl 0 rfl ?_
      refine gr_get C iwx_X11 34 (hw kw_1843) (by decide) rfl rfl dX11_post_80 ?_
      refine g_iload_n C dX11_post_83 rfl 2 rfl ?_
      obtain ⟨g23, h⟩ := h
      refine gr_ald_10 C g23 dX11_post_84 ?_
      obtain ⟨g27, h⟩ := h
      refine gr_callvV C [.int (q 10 (Int32.toNatClampNeg x2))] rfl (k_X11_shares l D T m0 a (q 10 (Int32.toNatClampNeg x2)) r q g27) (w0_V 1 C.2.2.2.2.1 kw_2295 kw_2297 ks_104 kw_9 kw_2298 rfl rfl (by decide +kernel) ⟨by decide, by decide⟩) rfl (Nat.le_of_ble_eq_true rfl) (Nat.zero_le _) (Nat.zero_le _) dX11_post_85 (fun r25 q26 hp => ?_)
      replace h := h r25 q26 hp
      refine g_aload_n C dX11_post_88 rfl 0 rfl ?_
      refine gr_get C iwx_X11 0 (hw kw_1809) (by decide) rfl rfl dX11_post_89 ?_
      refine g_iconst (v := 3) C dX11_post_92 (by decide) ?_
      refine g_dup2 C dX11_post_93 rfl rfl ?_
      obtain ⟨g28, h⟩ := h
      refine gr_ald_0 C g28 dX11_post_94 ?_
      refine g_iconst (v := 1) C dX11_post_95 (by decide) ?_
      refine g_iadd C dX11_post_96 ?_
      obtain ⟨g29, h⟩ := h
      refine gr_ast_0 C g29 dX11_post_97 ?_
      refine gr_nq (fun q30 eq30 => ?_)
      replace h := h q30 eq30
      refine g_iload_n C dX11_post_98 rfl 2 rfl ?_
      refine g_aload_n C dX11_post_99 rfl 0 rfl ?_
      refine gr_get C iwx_X11 34 (hw kw_1843) (by decide) rfl rfl dX11_post_100 ?_
      refine g_iload_n C dX11_post_103 rfl 2 rfl ?_
      obtain ⟨g31, h⟩ := h
      refine gr_ald_10 C g31 dX11_post_104 ?_
      refine g_iconst (v := -1) C dX11_post_105 (by decide) ?_
      refine g_ixor C dX11_post_106 ?_
      refine g_iand C dX11_post_107 ?_
      refine g_topi (fun v32 ev32 => ?_)
      replace h := h v32 ev32
      refine g_istore_n (lv' := [(2, .int v32), (0, .ref m0), (1, .int x1)]) C dX11_post_108 rfl (by decide) rfl ?_
      refine g_goto (tgt := 74) C dX11_post_109 (by decide) ?_
      refine g_locals [1, 2, 0] rfl ?_
      exact ih x1 v32 r25 q30 h
def wp_X11_post (P : Int32 → RST → Prop) (p0 : Int32) (r : Nat → Int32) (q : Nat → Nat → Int32) : Prop := (WF (q 0) ∧ rix 8) ∧ (∀ (v1 : Int32) (r2 : Nat → Int32) (q3 : Nat → Nat → Int32), (v1 = lckF (q 0) p0 (iv 8) ∧ r2 = va_up r 35 0 ∧ q3 = q) → (∀ r5 : Nat → Int32, r5 = va_up r2 6 v1 → ((¬ (r5 6) = 0 → (((r5 6) ≤ 0 → ((WF (q3 0) ∧ gok (q3 0) p0) ∧ (∀ (v8 : Int32) (r9 : Nat → Int32) (q10 : Nat → Nat → Int32), (q10 = q3 ∧ kR r5 r9 [17, 18, 19, 20, 21, 22, 23, 35] ∧ v8 = (match rfF (q3 0) (iv p0) with | none => 0 | some _ => 1) ∧ ∀ s, rfF (q3 0) (iv p0) = some s → r9 35 = nI (rsnD (q3 0) (2 ^ s)).1 ∧ r9 17 = (rsnD (q3 0) (2 ^ s)).2) → ((v8 = 0 → ((CW8 r9) ∧ (∀ (r14 : Nat → Int32) (q15 : Nat → Nat → Int32), (kR r9 r14 [5] ∧ kQ q10 q15 [3] ∧ psh (q10 3) (q15 3) (q10 0) (r9 5) (r14 5)) → ((WF (q15 0) ∧ gok (q15 0) p0 ∧ sgO (q15 0) (iv p0)) ∧ (∀ (r18 : Nat → Int32) (q19 : Nat → Nat → Int32), (lbP r14 q15 (iv p0) r18 q19) → (∃ k33 : Nat, wp_X11_post_74  P k33 p0 p0 r18 q19)))))) ∧ (¬ v8 = 0 → (∀ (v34 : Int32) (r35 : Nat → Int32) (q36 : Nat → Nat → Int32), (v34 = 0 ∧ q36 = q10 ∧ r35 = va_up (va_up (va_up r9 29 (r9 35)) 30 (r9 17)) 6 4) → (P v34 (r35, q36)))))))) ∧ (¬ (r5 6) ≤ 0 → (P 0 (r5, q3))))) ∧ ((r5 6) = 0 → ((WF (q3 0)) ∧ ((((posF (q3 0)) &&& p0) = 0 → (((r5 6) ≤ 0 → ((WF (q3 0) ∧ gok (q3 0) p0) ∧ (∀ (v40 : Int32) (r41 : Nat → Int32) (q42 : Nat → Nat → Int32), (q42 = q3 ∧ kR r5 r41 [17, 18, 19, 20, 21, 22, 23, 35] ∧ v40 = (match rfF (q3 0) (iv p0) with | none => 0 | some _ => 1) ∧ ∀ s, rfF (q3 0) (iv p0) = some s → r41 35 = nI (rsnD (q3 0) (2 ^ s)).1 ∧ r41 17 = (rsnD (q3 0) (2 ^ s)).2) → ((v40 = 0 → ((CW8 r41) ∧ (∀ (r46 : Nat → Int32) (q47 : Nat → Nat → Int32), (kR r41 r46 [5] ∧ kQ q42 q47 [3] ∧ psh (q42 3) (q47 3) (q42 0) (r41 5) (r46 5)) → ((WF (q47 0) ∧ gok (q47 0) p0 ∧ sgO (q47 0) (iv p0)) ∧ (∀ (r50 : Nat → Int32) (q51 : Nat → Nat → Int32), (lbP r46 q47 (iv p0) r50 q51) → (∃ k53 : Nat, wp_X11_post_74  P k53 p0 p0 r50 q51)))))) ∧ (¬ v40 = 0 → (∀ (v54 : Int32) (r55 : Nat → Int32) (q56 : Nat → Nat → Int32), (v54 = 0 ∧ q56 = q42 ∧ r55 = va_up (va_up (va_up r41 29 (r41 35)) 30 (r41 17)) 6 4) → (P v54 (r55, q56)))))))) ∧ (¬ (r5 6) ≤ 0 → (P 0 (r5, q3))))) ∧ (¬ ((posF (q3 0)) &&& p0) = 0 → (∀ r57 : Nat → Int32, r57 = va_up r5 6 3 → (((r57 6) ≤ 0 → ((WF (q3 0) ∧ gok (q3 0) p0) ∧ (∀ (v59 : Int32) (r60 : Nat → Int32) (q61 : Nat → Nat → Int32), (q61 = q3 ∧ kR r57 r60 [17, 18, 19, 20, 21, 22, 23, 35] ∧ v59 = (match rfF (q3 0) (iv p0) with | none => 0 | some _ => 1) ∧ ∀ s, rfF (q3 0) (iv p0) = some s → r60 35 = nI (rsnD (q3 0) (2 ^ s)).1 ∧ r60 17 = (rsnD (q3 0) (2 ^ s)).2) → ((v59 = 0 → ((CW8 r60) ∧ (∀ (r65 : Nat → Int32) (q66 : Nat → Nat → Int32), (kR r60 r65 [5] ∧ kQ q61 q66 [3] ∧ psh (q61 3) (q66 3) (q61 0) (r60 5) (r65 5)) → ((WF (q66 0) ∧ gok (q66 0) p0 ∧ sgO (q66 0) (iv p0)) ∧ (∀ (r69 : Nat → Int32) (q70 : Nat → Nat → Int32), (lbP r65 q66 (iv p0) r69 q70) → (∃ k72 : Nat, wp_X11_post_74  P k72 p0 p0 r69 q70)))))) ∧ (¬ v59 = 0 → (∀ (v73 : Int32) (r74 : Nat → Int32) (q75 : Nat → Nat → Int32), (v73 = 0 ∧ q75 = q61 ∧ r74 = va_up (va_up (va_up r60 29 (r60 35)) 30 (r60 17)) 6 4) → (P v73 (r74, q75)))))))) ∧ (¬ (r57 6) ≤ 0 → (P 0 (r57, q3))))))))))))
set_option maxRecDepth 100000 in
set_option maxHeartbeats 4000000 in
theorem t_X11_post {p : Program} {l : Launch} {e : Env} {s : State} {m : MethodId} {args : Array Value} {below : List Frame} {meth : Method} {c : Code} {D : va_G} {A : Nat → Prop} {T : Nat → ClassId} {m0 : Nat} {a : Nat → Nat} (C : GC p s m args meth c cX11_post "FreightRaterModel" (ws_X11_post) 3 D A (zty T)) (hr : meth.sig.returnType = (some .int)) (P : Int32 → RST → Prop) : ∀ (p0 : Int32) (r : Nat → Int32) (q : Nat → Nat → Int32), wp_X11_post P p0 r q → GW p l e rm_X11_post s m args below meth c D A 3 0 0 (MQ below (va_Qi P (RE D T m0 a A) A) args s 0 0 A) (RW m0 a T r q) 0 0 0 [(0, .ref m0), (1, .int p0)] [] := by
  have hw : ∀ {w : Cond}, w ∈ W0 → w.before args s = true := fun h => C.2.2.2.2.1 _ (List.mem_cons_of_mem _ h)
  intro p0 r q h
  unfold wp_X11_post at h
  refine g_aload_n C dX11_post_0 rfl 0 rfl ?_
  refine g_aload_n C dX11_post_1 rfl 0 rfl ?_
  refine g_iload_n C dX11_post_2 rfl 1 rfl ?_
  refine g_bipush (v := 8) C dX11_post_3 (by decide) ?_
  obtain ⟨g4, h⟩ := h
  refine gr_calliV C [.int p0, .int 8] rfl (k_X11_lacks l D T m0 a p0 8 r q g4) (w0_V 2 C.2.2.2.2.1 kw_2247 kw_2249 ks_96 kw_9 kw_2250 rfl rfl (by decide +kernel) ⟨by decide, by decide⟩) rfl (Nat.le_of_ble_eq_true rfl) (Nat.zero_le _) (Nat.zero_le _) dX11_post_5 (fun v1 r2 q3 hp => ?_)
  replace h := h v1 r2 q3 hp
  refine gr_put_6 C iwx_X11 (hw kw_1815) dX11_post_8 ?_
  refine gr_nr (fun r5 er5 => ?_)
  replace h := h r5 er5
  refine g_aload_n C dX11_post_11 rfl 0 rfl ?_
  refine gr_get C iwx_X11 6 (hw kw_1815) (by decide) rfl rfl dX11_post_12 ?_
  refine g_if_ne (tgt := 32) C dX11_post_15 (by decide) (fun z6 => ?_) (fun z6 => ?_)
  · replace h := h.1 z6
    refine g_aload_n C dX11_post_32 rfl 0 rfl ?_
    refine gr_get C iwx_X11 6 (hw kw_1815) (by decide) rfl rfl dX11_post_33 ?_
    refine g_if_le (tgt := 41) C dX11_post_36 (by decide) (fun z7 => ?_) (fun z7 => ?_)
    · replace h := h.1 z7
      refine g_aload_n C dX11_post_41 rfl 0 rfl ?_
      refine g_iload_n C dX11_post_42 rfl 1 rfl ?_
      obtain ⟨g11, h⟩ := h
      refine gr_calliV C [.int p0] rfl (k_X11_hasRefused l D T m0 a p0 r5 q3 g11) (w0_V 1 C.2.2.2.2.1 kw_2251 kw_2253 ks_97 kw_9 kw_2254 rfl rfl (by decide +kernel) ⟨by decide, by decide⟩) rfl (Nat.le_of_ble_eq_true rfl) (Nat.zero_le _) (Nat.zero_le _) dX11_post_43 (fun v8 r9 q10 hp => ?_)
      replace h := h v8 r9 q10 hp
      refine g_if_eq (tgt := 59) C dX11_post_46 (by decide) (fun z12 => ?_) (fun z12 => ?_)
      · replace h := h.1 z12
        refine g_aload_n C dX11_post_59 rfl 0 rfl ?_
        refine g_aload_n C dX11_post_60 rfl 0 rfl ?_
        refine gr_get C iwx_X11 0 (hw kw_1809) (by decide) rfl rfl dX11_post_61 ?_
        obtain ⟨g16, h⟩ := h
        refine gr_callvV C [.ref (a 0)] rfl (k_X11_keepAs_0 l D T m0 a  r9 q10 g16) (w0_V 1 C.2.2.2.2.1 kw_1958 kw_1960 ks_52 kw_9 kw_1961 rfl rfl (by decide +kernel) ⟨by decide, by decide⟩) rfl (Nat.le_of_ble_eq_true rfl) (Nat.zero_le _) (Nat.zero_le _) dX11_post_64 (fun r14 q15 hp => ?_)
        replace h := h r14 q15 hp
        refine g_aload_n C dX11_post_67 rfl 0 rfl ?_
        refine g_iload_n C dX11_post_68 rfl 1 rfl ?_
        obtain ⟨g20, h⟩ := h
        refine gr_callvV C [.int p0] rfl (k_X11_layBest l D T m0 a p0 r14 q15 g20) (w0_V 1 C.2.2.2.2.1 kw_2255 kw_2257 ks_98 kw_9 kw_2258 rfl rfl (by decide +kernel) ⟨by decide, by decide⟩) rfl (Nat.le_of_ble_eq_true rfl) (Nat.zero_le _) (Nat.zero_le _) dX11_post_69 (fun r18 q19 hp => ?_)
        replace h := h r18 q19 hp
        refine g_iload_n C dX11_post_72 rfl 1 rfl ?_
        refine g_istore_n (lv' := [(2, .int p0), (0, .ref m0), (1, .int p0)]) C dX11_post_73 rfl (by decide) rfl ?_
        refine g_locals [1, 2, 0] rfl ?_
        obtain ⟨k33, h⟩ := h
        refine t_X11_post_74 C hr  P  k33 p0 p0 r18 q19 h
      · replace h := h.2 z12
        refine g_aload_n C dX11_post_49 rfl 0 rfl ?_
        refine g_aload_n C dX11_post_50 rfl 0 rfl ?_
        refine gr_get C iwx_X11 35 (hw kw_1844) (by decide) rfl rfl dX11_post_51 ?_
        refine g_iconst (v := 4) C dX11_post_54 (by decide) ?_
        refine gr_calliV C [.int (r9 35), .int 4] rfl (k_X11_keepsReason l D T m0 a (r9 35) 4 r9 q10) (w0_V 2 C.2.2.2.2.1 kw_2204 kw_2206 ks_92 kw_9 kw_2207 rfl rfl (by decide +kernel) ⟨by decide, by decide⟩) rfl (Nat.le_of_ble_eq_true rfl) (Nat.zero_le _) (Nat.zero_le _) dX11_post_55 (fun v34 r35 q36 hp => ?_)
        replace h := h v34 r35 q36 hp
        exact gr_iret C hr dX11_post_58 h
    · replace h := h.2 z7
      refine g_iconst (v := 0) C dX11_post_39 (by decide) ?_
      exact gr_iret C hr dX11_post_40 h
  · replace h := h.2 z6
    refine g_aload_n C dX11_post_18 rfl 0 rfl ?_
    obtain ⟨g37, h⟩ := h
    refine gr_callVf C [] rfl (k_X11_posted l D T m0 a  r5 q3 g37) (w0_V 0 C.2.2.2.2.1 kw_2291 kw_2293 ks_103 kw_9 kw_2294 rfl rfl (by decide +kernel) ⟨by decide, by decide⟩) rfl (Nat.le_of_ble_eq_true rfl) (Nat.zero_le _) (Nat.zero_le _) dX11_post_19 ?_
    refine g_iload_n C dX11_post_22 rfl 1 rfl ?_
    refine g_iand C dX11_post_23 ?_
    refine g_if_eq (tgt := 32) C dX11_post_24 (by decide) (fun z38 => ?_) (fun z38 => ?_)
    · replace h := h.1 z38
      refine g_aload_n C dX11_post_32 rfl 0 rfl ?_
      refine gr_get C iwx_X11 6 (hw kw_1815) (by decide) rfl rfl dX11_post_33 ?_
      refine g_if_le (tgt := 41) C dX11_post_36 (by decide) (fun z39 => ?_) (fun z39 => ?_)
      · replace h := h.1 z39
        refine g_aload_n C dX11_post_41 rfl 0 rfl ?_
        refine g_iload_n C dX11_post_42 rfl 1 rfl ?_
        obtain ⟨g43, h⟩ := h
        refine gr_calliV C [.int p0] rfl (k_X11_hasRefused l D T m0 a p0 r5 q3 g43) (w0_V 1 C.2.2.2.2.1 kw_2251 kw_2253 ks_97 kw_9 kw_2254 rfl rfl (by decide +kernel) ⟨by decide, by decide⟩) rfl (Nat.le_of_ble_eq_true rfl) (Nat.zero_le _) (Nat.zero_le _) dX11_post_43 (fun v40 r41 q42 hp => ?_)
        replace h := h v40 r41 q42 hp
        refine g_if_eq (tgt := 59) C dX11_post_46 (by decide) (fun z44 => ?_) (fun z44 => ?_)
        · replace h := h.1 z44
          refine g_aload_n C dX11_post_59 rfl 0 rfl ?_
          refine g_aload_n C dX11_post_60 rfl 0 rfl ?_
          refine gr_get C iwx_X11 0 (hw kw_1809) (by decide) rfl rfl dX11_post_61 ?_
          obtain ⟨g48, h⟩ := h
          refine gr_callvV C [.ref (a 0)] rfl (k_X11_keepAs_0 l D T m0 a  r41 q42 g48) (w0_V 1 C.2.2.2.2.1 kw_1958 kw_1960 ks_52 kw_9 kw_1961 rfl rfl (by decide +kernel) ⟨by decide, by decide⟩) rfl (Nat.le_of_ble_eq_true rfl) (Nat.zero_le _) (Nat.zero_le _) dX11_post_64 (fun r46 q47 hp => ?_)
          replace h := h r46 q47 hp
          refine g_aload_n C dX11_post_67 rfl 0 rfl ?_
          refine g_iload_n C dX11_post_68 rfl 1 rfl ?_
          obtain ⟨g52, h⟩ := h
          refine gr_callvV C [.int p0] rfl (k_X11_layBest l D T m0 a p0 r46 q47 g52) (w0_V 1 C.2.2.2.2.1 kw_2255 kw_2257 ks_98 kw_9 kw_2258 rfl rfl (by decide +kernel) ⟨by decide, by decide⟩) rfl (Nat.le_of_ble_eq_true rfl) (Nat.zero_le _) (Nat.zero_le _) dX11_post_69 (fun r50 q51 hp => ?_)
          replace h := h r50 q51 hp
          refine g_iload_n C dX11_post_72 rfl 1 rfl ?_
          refine g_istore_n (lv' := [(2, .int p0), (0, .ref m0), (1, .int p0)]) C dX11_post_73 rfl (by decide) rfl ?_
          refine g_locals [1, 2, 0] rfl ?_
          obtain ⟨k53, h⟩ := h
          refine t_X11_post_74 C hr  P  k53 p0 p0 r50 q51 h
        · replace h := h.2 z44
          refine g_aload_n C dX11_post_49 rfl 0 rfl ?_
          refine g_aload_n C dX11_post_50 rfl 0 rfl ?_
          refine gr_get C iwx_X11 35 (hw kw_1844) (by decide) rfl rfl dX11_post_51 ?_
          refine g_iconst (v := 4) C dX11_post_54 (by decide) ?_
          refine gr_calliV C [.int (r41 35), .int 4] rfl (k_X11_keepsReason l D T m0 a (r41 35) 4 r41 q42) (w0_V 2 C.2.2.2.2.1 kw_2204 kw_2206 ks_92 kw_9 kw_2207 rfl rfl (by decide +kernel) ⟨by decide, by decide⟩) rfl (Nat.le_of_ble_eq_true rfl) (Nat.zero_le _) (Nat.zero_le _) dX11_post_55 (fun v54 r55 q56 hp => ?_)
          replace h := h v54 r55 q56 hp
          exact gr_iret C hr dX11_post_58 h
      · replace h := h.2 z39
        refine g_iconst (v := 0) C dX11_post_39 (by decide) ?_
        exact gr_iret C hr dX11_post_40 h
    · replace h := h.2 z38
      refine g_aload_n C dX11_post_27 rfl 0 rfl ?_
      refine g_iconst (v := 3) C dX11_post_28 (by decide) ?_
      refine gr_put_6 C iwx_X11 (hw kw_1815) dX11_post_29 ?_
      refine gr_nr (fun r57 er57 => ?_)
      replace h := h r57 er57
      refine g_aload_n C dX11_post_32 rfl 0 rfl ?_
      refine gr_get C iwx_X11 6 (hw kw_1815) (by decide) rfl rfl dX11_post_33 ?_
      refine g_if_le (tgt := 41) C dX11_post_36 (by decide) (fun z58 => ?_) (fun z58 => ?_)
      · replace h := h.1 z58
        refine g_aload_n C dX11_post_41 rfl 0 rfl ?_
        refine g_iload_n C dX11_post_42 rfl 1 rfl ?_
        obtain ⟨g62, h⟩ := h
        refine gr_calliV C [.int p0] rfl (k_X11_hasRefused l D T m0 a p0 r57 q3 g62) (w0_V 1 C.2.2.2.2.1 kw_2251 kw_2253 ks_97 kw_9 kw_2254 rfl rfl (by decide +kernel) ⟨by decide, by decide⟩) rfl (Nat.le_of_ble_eq_true rfl) (Nat.zero_le _) (Nat.zero_le _) dX11_post_43 (fun v59 r60 q61 hp => ?_)
        replace h := h v59 r60 q61 hp
        refine g_if_eq (tgt := 59) C dX11_post_46 (by decide) (fun z63 => ?_) (fun z63 => ?_)
        · replace h := h.1 z63
          refine g_aload_n C dX11_post_59 rfl 0 rfl ?_
          refine g_aload_n C dX11_post_60 rfl 0 rfl ?_
          refine gr_get C iwx_X11 0 (hw kw_1809) (by decide) rfl rfl dX11_post_61 ?_
          obtain ⟨g67, h⟩ := h
          refine gr_callvV C [.ref (a 0)] rfl (k_X11_keepAs_0 l D T m0 a  r60 q61 g67) (w0_V 1 C.2.2.2.2.1 kw_1958 kw_1960 ks_52 kw_9 kw_1961 rfl rfl (by decide +kernel) ⟨by decide, by decide⟩) rfl (Nat.le_of_ble_eq_true rfl) (Nat.zero_le _) (Nat.zero_le _) dX11_post_64 (fun r65 q66 hp => ?_)
          replace h := h r65 q66 hp
          refine g_aload_n C dX11_post_67 rfl 0 rfl ?_
          refine g_iload_n C dX11_post_68 rfl 1 rfl ?_
          obtain ⟨g71, h⟩ := h
          refine gr_callvV C [.int p0] rfl (k_X11_layBest l D T m0 a p0 r65 q66 g71) (w0_V 1 C.2.2.2.2.1 kw_2255 kw_2257 ks_98 kw_9 kw_2258 rfl rfl (by decide +kernel) ⟨by decide, by decide⟩) rfl (Nat.le_of_ble_eq_true rfl) (Nat.zero_le _) (Nat.zero_le _) dX11_post_69 (fun r69 q70 hp => ?_)
          replace h := h r69 q70 hp
          refine g_iload_n C dX11_post_72 rfl 1 rfl ?_
          refine g_istore_n (lv' := [(2, .int p0), (0, .ref m0), (1, .int p0)]) C dX11_post_73 rfl (by decide) rfl ?_
          refine g_locals [1, 2, 0] rfl ?_
          obtain ⟨k72, h⟩ := h
          refine t_X11_post_74 C hr  P  k72 p0 p0 r69 q70 h
        · replace h := h.2 z63
          refine g_aload_n C dX11_post_49 rfl 0 rfl ?_
          refine g_aload_n C dX11_post_50 rfl 0 rfl ?_
          refine gr_get C iwx_X11 35 (hw kw_1844) (by decide) rfl rfl dX11_post_51 ?_
          refine g_iconst (v := 4) C dX11_post_54 (by decide) ?_
          refine gr_calliV C [.int (r60 35), .int 4] rfl (k_X11_keepsReason l D T m0 a (r60 35) 4 r60 q61) (w0_V 2 C.2.2.2.2.1 kw_2204 kw_2206 ks_92 kw_9 kw_2207 rfl rfl (by decide +kernel) ⟨by decide, by decide⟩) rfl (Nat.le_of_ble_eq_true rfl) (Nat.zero_le _) (Nat.zero_le _) dX11_post_55 (fun v73 r74 q75 hp => ?_)
          replace h := h v73 r74 q75 hp
          exact gr_iret C hr dX11_post_58 h
      · replace h := h.2 z58
        refine g_iconst (v := 0) C dX11_post_39 (by decide) ?_
        exact gr_iret C hr dX11_post_40 h
theorem c_X11_post (l : Launch) (D : va_G) (T : Nat → ClassId) (m0 : Nat) (a : Nat → Nat) (p0 : Int32) (r : Nat → Int32) (q : Nat → Nat → Int32) (P : Int32 → RST → Prop) (h : wp_X11_post P p0 r q) : RMi l yX11_post (ws_X11_post) rm_X11_post D T m0 a [.ref m0, .int p0] r q P := gr_meti (by decide) rfl rfl (Nat.le_of_ble_eq_true rfl) (fun p e s m args below meth c A C hr => t_X11_post C hr P p0 r q h)
end S_TODO
