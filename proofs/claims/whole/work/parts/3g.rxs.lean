section S_RXS
abbrev ws_X11_shares : List Cond := Cond.code yX11_shares cX11_shares 8 none :: W0
abbrev rm_X11_shares : Room := ({ frames := 6, cells := 0, slots := 0, locals := 139 } : Room)
def wb_X11_shares_12 (rec : Int32 → Int32 → Int64 → Int32 → (Nat → Int32) → (Nat → Nat → Int32) → Prop) (K55 : Int32 → Int32 → Int64 → (Nat → Int32) → (Nat → Nat → Int32) → Prop) (P : RST → Prop) (x1 : Int32) (x2 : Int32) (x3 : Int64) (x5 : Int32) (r : Nat → Int32) (q : Nat → Nat → Int32) : Prop := vp_in 1 3334 ∧ (((q 0 (Int32.toNatClampNeg 1)) ≤ x5 → (K55 x1 x2 x3 r q)) ∧ (¬ (q 0 (Int32.toNatClampNeg 1)) ≤ x5 → (((hasF x1 x5) = 0 → (∀ v6 : Int32, v6 = x5 + 1 → (rec x1 x2 x3 v6 r q))) ∧ (¬ (hasF x1 x5) = 0 → ((WF (q 0) ∧ gok (q 0) (1 <<< (x5 &&& 31))) ∧ (∀ (v7 : Int32) (r8 : Nat → Int32) (q9 : Nat → Nat → Int32), (v7 = nI (rsnD (q 0) (iv (1 <<< (x5 &&& 31)))).1 ∧ q9 = q ∧ kR r r8 [17, 18, 19, 20, 21, 22, 23] ∧ (¬ (rsnD (q 0) (iv (1 <<< (x5 &&& 31)))).1 = 0 → r8 17 = (rsnD (q 0) (iv (1 <<< (x5 &&& 31)))).2) ∧ ((rsnD (q 0) (iv (1 <<< (x5 &&& 31)))).1 = 0 → r8 18 = gvF (q 0) (iv (1 <<< (x5 &&& 31))) ∧ r8 19 = gzF (q 0) (iv (1 <<< (x5 &&& 31))) ∧ r8 20 = wtF (q 0) (iv (gvF (q 0) (iv (1 <<< (x5 &&& 31))))) (iv (1 <<< (x5 &&& 31))) ∧ r8 21 = pcF (q 0) (iv (gvF (q 0) (iv (1 <<< (x5 &&& 31))))) (iv (1 <<< (x5 &&& 31))) ∧ r8 22 = lgF (q 0) (iv (gvF (q 0) (iv (1 <<< (x5 &&& 31))))) (iv (1 <<< (x5 &&& 31))) ∧ r8 23 = hdF (q 0) (iv (gvF (q 0) (iv (1 <<< (x5 &&& 31))))) (iv (1 <<< (x5 &&& 31))))) → (∀ v11 : Int64, v11 = (x3 + ((r8 20)).toInt64) → (∀ v12 : Int32, v12 = x5 + 1 → (rec x1 x2 v11 v12 r8 q9)))))))))
def wp_X11_shares_12 (K55 : Int32 → Int32 → Int64 → (Nat → Int32) → (Nat → Nat → Int32) → Prop) (P : RST → Prop) : Nat → Int32 → Int32 → Int64 → Int32 → (Nat → Int32) → (Nat → Nat → Int32) → Prop
  | 0 => fun _ _ _ _ _ _ => False
  | n + 1 => fun x1 x2 x3 x5 r q => wb_X11_shares_12 (wp_X11_shares_12 K55 P n) K55 P x1 x2 x3 x5 r q
set_option maxRecDepth 100000 in
set_option maxHeartbeats 4000000 in
theorem t_X11_shares_12 {p : Program} {l : Launch} {e : Env} {s : State} {m : MethodId} {args : Array Value} {below : List Frame} {meth : Method} {c : Code} {D : va_G} {A : Nat → Prop} {T : Nat → ClassId} {m0 : Nat} {a : Nat → Nat} (C : GC p s m args meth c cX11_shares "FreightRaterModel" (ws_X11_shares) 8 D A (zty T)) (hr : meth.sig.returnType = none) (K55 : Int32 → Int32 → Int64 → (Nat → Int32) → (Nat → Nat → Int32) → Prop) (P : RST → Prop) (hK55 : ∀ (x1 : Int32) (x2 : Int32) (x3 : Int64) (r : Nat → Int32) (q : Nat → Nat → Int32), K55 x1 x2 x3 r q → GW p l e rm_X11_shares s m args below meth c D A 8 0 0 (MQ below (va_Qv P (RE D T m0 a A) A) args s 0 0 A) (RW m0 a T r q) 0 0 55 [(0, .ref m0), (1, .int x1), (2, .int x2), (3, .long x3)] []) : ∀ (n : Nat) (x1 : Int32) (x2 : Int32) (x3 : Int64) (x5 : Int32) (r : Nat → Int32) (q : Nat → Nat → Int32), wp_X11_shares_12 K55 P n x1 x2 x3 x5 r q → GW p l e rm_X11_shares s m args below meth c D A 8 0 0 (MQ below (va_Qv P (RE D T m0 a A) A) args s 0 0 A) (RW m0 a T r q) 0 0 12 [(0, .ref m0), (1, .int x1), (2, .int x2), (3, .long x3), (5, .int x5)] [] := by
  have hw : ∀ {w : Cond}, w ∈ W0 → w.before args s = true := fun h => C.2.2.2.2.1 _ (List.mem_cons_of_mem _ h)
  intro n
  induction n with
  | zero => intro x1 x2 x3 x5 r q h; exact h.elim
  | succ n ih =>
    intro x1 x2 x3 x5 r q h
    replace h : wb_X11_shares_12 (wp_X11_shares_12 K55 P n) K55 P x1 x2 x3 x5 r q := h
    unfold wb_X11_shares_12 at h
    refine g_iload C dX11_shares_12 4 rfl ?_
    refine g_aload_n C dX11_shares_14 rfl 0 rfl ?_
    refine gr_get C iwx_X11 0 (hw kw_1809) (by decide) rfl rfl dX11_shares_15 ?_
    refine g_iconst (v := 1) C dX11_shares_18 (by decide) ?_
    obtain ⟨g3, h⟩ := h
    refine gr_ald_0 C g3 dX11_shares_19 ?_
    refine g_icmp_ge (tgt := 55) C dX11_shares_20 (by decide) (fun z4 => ?_) (fun z4 => ?_)
    · replace h := h.1 z4
      refine g_locals [0, 1, 2, 3] rfl ?_
      exact hK55 x1 x2 x3 r q h
    · replace h := h.2 z4
      refine g_iload_n C dX11_shares_23 rfl 1 rfl ?_
      refine g_iload C dX11_shares_24 4 rfl ?_
      refine gr_callSf C [.int x1, .int x5] rfl (k_X11_has l D T m0 a x1 x5 r q) (w0_S 2 C.2.2.2.2.1 kw_2178 kw_2179 kw_9 kw_2180 rfl rfl (by decide +kernel) ⟨by decide, by decide⟩) rfl (Nat.le_of_ble_eq_true rfl) (Nat.zero_le _) (Nat.zero_le _) dX11_shares_26 ?_
      refine g_if_eq (tgt := 49) C dX11_shares_29 (by decide) (fun z5 => ?_) (fun z5 => ?_)
      · replace h := h.1 z5
        obtain ⟨v6, ev6⟩ : ∃ y : Int32, y = x5 + 1 := ⟨_, rfl⟩
        replace h := h v6 ev6
        refine g_iinc (v := v6) (lv' := [(5, .int v6), (0, .ref m0), (1, .int x1), (2, .int x2), (3, .long x3)]) C dX11_shares_49 (j := 4) rfl (by rw [ev6]; rfl) (by decide) rfl ?_
        refine g_goto (tgt := 12) C dX11_shares_52 (by decide) ?_
        refine g_locals [1, 2, 3, 4, 0] rfl ?_
        exact ih x1 x2 x3 v6 r q h
      · replace h := h.2 z5
        refine g_aload_n C dX11_shares_32 rfl 0 rfl ?_
        refine g_iconst (v := 1) C dX11_shares_33 (by decide) ?_
        refine g_iload C dX11_shares_34 4 rfl ?_
        refine g_ishl C dX11_shares_36 ?_
        obtain ⟨g10, h⟩ := h
        refine gr_calliV C [.int (1 <<< (x5 &&& 31))] rfl (k_X11_reasonOf l D T m0 a (1 <<< (x5 &&& 31)) r q g10) (w0_V 1 C.2.2.2.2.1 kw_2171 kw_2173 ks_86 kw_9 kw_2174 rfl rfl (by decide +kernel) ⟨by decide, by decide⟩) rfl (Nat.le_of_ble_eq_true rfl) (Nat.zero_le _) (Nat.zero_le _) dX11_shares_37 (fun v7 r8 q9 hp => ?_)
        replace h := h v7 r8 q9 hp
        refine g_pop C dX11_shares_40 rfl ?_
        refine g_lload_n C dX11_shares_41 rfl 3 rfl ?_
        refine g_aload_n C dX11_shares_42 rfl 0 rfl ?_
        refine gr_get C iwx_X11 20 (hw kw_1829) (by decide) rfl rfl dX11_shares_43 ?_
        refine g_i2l C dX11_shares_46 rfl ?_
        refine g_ladd C dX11_shares_47 ?_
        refine g_topl (fun v11 ev11 => ?_)
        replace h := h v11 ev11
        refine g_lstore_n (lv' := [(3, .long v11), (0, .ref m0), (1, .int x1), (2, .int x2), (5, .int x5)]) C dX11_shares_48 rfl (by decide) rfl ?_
        obtain ⟨v12, ev12⟩ : ∃ y : Int32, y = x5 + 1 := ⟨_, rfl⟩
        replace h := h v12 ev12
        refine g_iinc (v := v12) (lv' := [(5, .int v12), (3, .long v11), (0, .ref m0), (1, .int x1), (2, .int x2)]) C dX11_shares_49 (j := 4) rfl (by rw [ev12]; rfl) (by decide) rfl ?_
        refine g_goto (tgt := 12) C dX11_shares_52 (by decide) ?_
        refine g_locals [2, 3, 4, 1, 0] rfl ?_
        exact ih x1 x2 v11 v12 r8 q9 h
def wb_X11_shares_61 (rec : Int32 → Int32 → Int64 → Int32 → Int32 → (Nat → Int32) → (Nat → Nat → Int32) → Prop) (K133 : Int32 → Int32 → (Nat → Int32) → (Nat → Nat → Int32) → Prop) (P : RST → Prop) (x1 : Int32) (x2 : Int32) (x3 : Int64) (x5 : Int32) (x6 : Int32) (r : Nat → Int32) (q : Nat → Nat → Int32) : Prop := vp_in 1 3334 ∧ (((q 0 (Int32.toNatClampNeg 1)) ≤ x6 → (K133 x1 x5 r q)) ∧ (¬ (q 0 (Int32.toNatClampNeg 1)) ≤ x6 → (((hasF x1 x6) = 0 → (∀ v21 : Int32, v21 = x6 + 1 → (rec x1 x2 x3 x5 v21 r q))) ∧ (¬ (hasF x1 x6) = 0 → ((WF (q 0) ∧ gok (q 0) (1 <<< (x6 &&& 31))) ∧ (∀ (v22 : Int32) (r23 : Nat → Int32) (q24 : Nat → Nat → Int32), (v22 = nI (rsnD (q 0) (iv (1 <<< (x6 &&& 31)))).1 ∧ q24 = q ∧ kR r r23 [17, 18, 19, 20, 21, 22, 23] ∧ (¬ (rsnD (q 0) (iv (1 <<< (x6 &&& 31)))).1 = 0 → r23 17 = (rsnD (q 0) (iv (1 <<< (x6 &&& 31)))).2) ∧ ((rsnD (q 0) (iv (1 <<< (x6 &&& 31)))).1 = 0 → r23 18 = gvF (q 0) (iv (1 <<< (x6 &&& 31))) ∧ r23 19 = gzF (q 0) (iv (1 <<< (x6 &&& 31))) ∧ r23 20 = wtF (q 0) (iv (gvF (q 0) (iv (1 <<< (x6 &&& 31))))) (iv (1 <<< (x6 &&& 31))) ∧ r23 21 = pcF (q 0) (iv (gvF (q 0) (iv (1 <<< (x6 &&& 31))))) (iv (1 <<< (x6 &&& 31))) ∧ r23 22 = lgF (q 0) (iv (gvF (q 0) (iv (1 <<< (x6 &&& 31))))) (iv (1 <<< (x6 &&& 31))) ∧ r23 23 = hdF (q 0) (iv (gvF (q 0) (iv (1 <<< (x6 &&& 31))))) (iv (1 <<< (x6 &&& 31))))) → (¬ x3 = 0 ∧ (∀ v27 : Int32, v27 = ((((x2).toInt64 * ((r23 20)).toInt64) / x3)).toInt32 → (vp_in ((14 + (26 * x6)) + 5) 3334 ∧ (∀ q29 : Nat → Nat → Int32, q29 = va_up q24 0 (upd (q24 0) (Int32.toNatClampNeg ((14 + (26 * x6)) + 5)) v27) → (∀ v30 : Int32, v30 = (x5 - v27) → (∀ v31 : Int32, v31 = x6 + 1 → (rec x1 x2 x3 v30 v31 r23 q29)))))))))))))
def wp_X11_shares_61 (K133 : Int32 → Int32 → (Nat → Int32) → (Nat → Nat → Int32) → Prop) (P : RST → Prop) : Nat → Int32 → Int32 → Int64 → Int32 → Int32 → (Nat → Int32) → (Nat → Nat → Int32) → Prop
  | 0 => fun _ _ _ _ _ _ _ => False
  | n + 1 => fun x1 x2 x3 x5 x6 r q => wb_X11_shares_61 (wp_X11_shares_61 K133 P n) K133 P x1 x2 x3 x5 x6 r q
set_option maxRecDepth 100000 in
set_option maxHeartbeats 4000000 in
theorem t_X11_shares_61 {p : Program} {l : Launch} {e : Env} {s : State} {m : MethodId} {args : Array Value} {below : List Frame} {meth : Method} {c : Code} {D : va_G} {A : Nat → Prop} {T : Nat → ClassId} {m0 : Nat} {a : Nat → Nat} (C : GC p s m args meth c cX11_shares "FreightRaterModel" (ws_X11_shares) 8 D A (zty T)) (hr : meth.sig.returnType = none) (K133 : Int32 → Int32 → (Nat → Int32) → (Nat → Nat → Int32) → Prop) (P : RST → Prop) (hK133 : ∀ (x1 : Int32) (x5 : Int32) (r : Nat → Int32) (q : Nat → Nat → Int32), K133 x1 x5 r q → GW p l e rm_X11_shares s m args below meth c D A 8 0 0 (MQ below (va_Qv P (RE D T m0 a A) A) args s 0 0 A) (RW m0 a T r q) 0 0 133 [(0, .ref m0), (1, .int x1), (5, .int x5)] []) : ∀ (n : Nat) (x1 : Int32) (x2 : Int32) (x3 : Int64) (x5 : Int32) (x6 : Int32) (r : Nat → Int32) (q : Nat → Nat → Int32), wp_X11_shares_61 K133 P n x1 x2 x3 x5 x6 r q → GW p l e rm_X11_shares s m args below meth c D A 8 0 0 (MQ below (va_Qv P (RE D T m0 a A) A) args s 0 0 A) (RW m0 a T r q) 0 0 61 [(0, .ref m0), (1, .int x1), (2, .int x2), (3, .long x3), (5, .int x5), (6, .int x6)] [] := by
  have hw : ∀ {w : Cond}, w ∈ W0 → w.before args s = true := fun h => C.2.2.2.2.1 _ (List.mem_cons_of_mem _ h)
  intro n
  induction n with
  | zero => intro x1 x2 x3 x5 x6 r q h; exact h.elim
  | succ n ih =>
    intro x1 x2 x3 x5 x6 r q h
    replace h : wb_X11_shares_61 (wp_X11_shares_61 K133 P n) K133 P x1 x2 x3 x5 x6 r q := h
    unfold wb_X11_shares_61 at h
    refine g_iload C dX11_shares_61 5 rfl ?_
    refine g_aload_n C dX11_shares_63 rfl 0 rfl ?_
    refine gr_get C iwx_X11 0 (hw kw_1809) (by decide) rfl rfl dX11_shares_64 ?_
    refine g_iconst (v := 1) C dX11_shares_67 (by decide) ?_
    obtain ⟨g18, h⟩ := h
    refine gr_ald_0 C g18 dX11_shares_68 ?_
    refine g_icmp_ge (tgt := 133) C dX11_shares_69 (by decide) (fun z19 => ?_) (fun z19 => ?_)
    · replace h := h.1 z19
      refine g_locals [0, 1, 4] rfl ?_
      exact hK133 x1 x5 r q h
    · replace h := h.2 z19
      refine g_iload_n C dX11_shares_72 rfl 1 rfl ?_
      refine g_iload C dX11_shares_73 5 rfl ?_
      refine gr_callSf C [.int x1, .int x6] rfl (k_X11_has l D T m0 a x1 x6 r q) (w0_S 2 C.2.2.2.2.1 kw_2178 kw_2179 kw_9 kw_2180 rfl rfl (by decide +kernel) ⟨by decide, by decide⟩) rfl (Nat.le_of_ble_eq_true rfl) (Nat.zero_le _) (Nat.zero_le _) dX11_shares_75 ?_
      refine g_if_eq (tgt := 127) C dX11_shares_78 (by decide) (fun z20 => ?_) (fun z20 => ?_)
      · replace h := h.1 z20
        obtain ⟨v21, ev21⟩ : ∃ y : Int32, y = x6 + 1 := ⟨_, rfl⟩
        replace h := h v21 ev21
        refine g_iinc (v := v21) (lv' := [(6, .int v21), (0, .ref m0), (1, .int x1), (2, .int x2), (3, .long x3), (5, .int x5)]) C dX11_shares_127 (j := 5) rfl (by rw [ev21]; rfl) (by decide) rfl ?_
        refine g_goto (tgt := 61) C dX11_shares_130 (by decide) ?_
        refine g_locals [1, 2, 3, 4, 5, 0] rfl ?_
        exact ih x1 x2 x3 x5 v21 r q h
      · replace h := h.2 z20
        refine g_aload_n C dX11_shares_81 rfl 0 rfl ?_
        refine g_iconst (v := 1) C dX11_shares_82 (by decide) ?_
        refine g_iload C dX11_shares_83 5 rfl ?_
        refine g_ishl C dX11_shares_85 ?_
        obtain ⟨g25, h⟩ := h
        refine gr_calliV C [.int (1 <<< (x6 &&& 31))] rfl (k_X11_reasonOf l D T m0 a (1 <<< (x6 &&& 31)) r q g25) (w0_V 1 C.2.2.2.2.1 kw_2171 kw_2173 ks_86 kw_9 kw_2174 rfl rfl (by decide +kernel) ⟨by decide, by decide⟩) rfl (Nat.le_of_ble_eq_true rfl) (Nat.zero_le _) (Nat.zero_le _) dX11_shares_86 (fun v22 r23 q24 hp => ?_)
        replace h := h v22 r23 q24 hp
        refine g_pop C dX11_shares_89 rfl ?_
        refine g_iload_n C dX11_shares_90 rfl 2 rfl ?_
        refine g_i2l C dX11_shares_91 rfl ?_
        refine g_aload_n C dX11_shares_92 rfl 0 rfl ?_
        refine gr_get C iwx_X11 20 (hw kw_1829) (by decide) rfl rfl dX11_shares_93 ?_
        refine g_i2l C dX11_shares_96 rfl ?_
        refine g_lmul C dX11_shares_97 ?_
        refine g_lload_n C dX11_shares_98 rfl 3 rfl ?_
        obtain ⟨g26, h⟩ := h
        refine g_ldiv C dX11_shares_99 g26 ?_
        refine g_l2i C dX11_shares_100 rfl ?_
        refine g_topi (fun v27 ev27 => ?_)
        replace h := h v27 ev27
        refine g_istore (lv' := [(7, .int v27), (0, .ref m0), (1, .int x1), (2, .int x2), (3, .long x3), (5, .int x5), (6, .int x6)]) C dX11_shares_101 (by decide) rfl ?_
        refine g_aload_n C dX11_shares_103 rfl 1 rfl ?_
        refine gr_get C iwx_X11 0 (hw kw_1809) (by decide) rfl rfl dX11_shares_104 ?_
        refine g_bipush (v := 14) C dX11_shares_107 (by decide) ?_
        refine g_bipush (v := 26) C dX11_shares_109 (by decide) ?_
        refine g_iload C dX11_shares_111 6 rfl ?_
        refine g_imul C dX11_shares_113 ?_
        refine g_iadd C dX11_shares_114 ?_
        refine g_iconst (v := 5) C dX11_shares_115 (by decide) ?_
        refine g_iadd C dX11_shares_116 ?_
        refine g_iload C dX11_shares_117 0 rfl ?_
        obtain ⟨g28, h⟩ := h
        refine gr_ast_0 C g28 dX11_shares_119 ?_
        refine gr_nq (fun q29 eq29 => ?_)
        replace h := h q29 eq29
        refine g_iload C dX11_shares_120 5 rfl ?_
        refine g_iload C dX11_shares_122 0 rfl ?_
        refine g_isub C dX11_shares_124 ?_
        refine g_topi (fun v30 ev30 => ?_)
        replace h := h v30 ev30
        refine g_istore (lv' := [(5, .int v30), (7, .int v27), (0, .ref m0), (1, .int x1), (2, .int x2), (3, .long x3), (6, .int x6)]) C dX11_shares_125 (by decide) rfl ?_
        obtain ⟨v31, ev31⟩ : ∃ y : Int32, y = x6 + 1 := ⟨_, rfl⟩
        replace h := h v31 ev31
        refine g_iinc (v := v31) (lv' := [(6, .int v31), (5, .int v30), (7, .int v27), (0, .ref m0), (1, .int x1), (2, .int x2), (3, .long x3)]) C dX11_shares_127 (j := 6) rfl (by rw [ev31]; rfl) (by decide) rfl ?_
        refine g_goto (tgt := 61) C dX11_shares_130 (by decide) ?_
        refine g_locals [3, 4, 5, 6, 1, 0] rfl ?_
        exact ih x1 x2 x3 v30 v31 r23 q29 h
def wb_X11_shares_136 (rec : Int32 → Int32 → Int32 → (Nat → Int32) → (Nat → Nat → Int32) → Prop) (P : RST → Prop) (x1 : Int32) (x5 : Int32) (x6 : Int32) (r : Nat → Int32) (q : Nat → Nat → Int32) : Prop := vp_in 1 3334 ∧ (((q 0 (Int32.toNatClampNeg 1)) ≤ x6 → (P (r, q))) ∧ (¬ (q 0 (Int32.toNatClampNeg 1)) ≤ x6 → (((hasF x1 x6) = 0 → (∀ v39 : Int32, v39 = x6 + 1 → (rec x1 x5 v39 r q))) ∧ (¬ (hasF x1 x6) = 0 → ((x5 ≤ 0 → (∀ v41 : Int32, v41 = x6 + 1 → (rec x1 x5 v41 r q))) ∧ (¬ x5 ≤ 0 → (vp_in ((14 + (26 * x6)) + 5) 3334 ∧ (vp_in ((14 + (26 * x6)) + 5) 3334 ∧ (∀ q44 : Nat → Nat → Int32, q44 = va_up q 0 (upd (q 0) (Int32.toNatClampNeg ((14 + (26 * x6)) + 5)) ((q 0 (Int32.toNatClampNeg ((14 + (26 * x6)) + 5))) + 1)) → (∀ v45 : Int32, v45 = x5 + (-1) → (∀ v46 : Int32, v46 = x6 + 1 → (rec x1 v45 v46 r q44))))))))))))
def wp_X11_shares_136 (P : RST → Prop) : Nat → Int32 → Int32 → Int32 → (Nat → Int32) → (Nat → Nat → Int32) → Prop
  | 0 => fun _ _ _ _ _ => False
  | n + 1 => fun x1 x5 x6 r q => wb_X11_shares_136 (wp_X11_shares_136  P n)  P x1 x5 x6 r q
set_option maxRecDepth 100000 in
set_option maxHeartbeats 4000000 in
theorem t_X11_shares_136 {p : Program} {l : Launch} {e : Env} {s : State} {m : MethodId} {args : Array Value} {below : List Frame} {meth : Method} {c : Code} {D : va_G} {A : Nat → Prop} {T : Nat → ClassId} {m0 : Nat} {a : Nat → Nat} (C : GC p s m args meth c cX11_shares "FreightRaterModel" (ws_X11_shares) 8 D A (zty T)) (hr : meth.sig.returnType = none) (P : RST → Prop) : ∀ (n : Nat) (x1 : Int32) (x5 : Int32) (x6 : Int32) (r : Nat → Int32) (q : Nat → Nat → Int32), wp_X11_shares_136  P n x1 x5 x6 r q → GW p l e rm_X11_shares s m args below meth c D A 8 0 0 (MQ below (va_Qv P (RE D T m0 a A) A) args s 0 0 A) (RW m0 a T r q) 0 0 136 [(0, .ref m0), (1, .int x1), (5, .int x5), (6, .int x6)] [] := by
  have hw : ∀ {w : Cond}, w ∈ W0 → w.before args s = true := fun h => C.2.2.2.2.1 _ (List.mem_cons_of_mem _ h)
  intro n
  induction n with
  | zero => intro x1 x5 x6 r q h; exact h.elim
  | succ n ih =>
    intro x1 x5 x6 r q h
    replace h : wb_X11_shares_136 (wp_X11_shares_136  P n)  P x1 x5 x6 r q := h
    unfold wb_X11_shares_136 at h
    refine g_iload C dX11_shares_136 3 rfl ?_
    refine g_aload_n C dX11_shares_138 rfl 0 rfl ?_
    refine gr_get C iwx_X11 0 (hw kw_1809) (by decide) rfl rfl dX11_shares_139 ?_
    refine g_iconst (v := 1) C dX11_shares_142 (by decide) ?_
    obtain ⟨g36, h⟩ := h
    refine gr_ald_0 C g36 dX11_shares_143 ?_
    refine g_icmp_ge (tgt := 189) C dX11_shares_144 (by decide) (fun z37 => ?_) (fun z37 => ?_)
    · replace h := h.1 z37
      exact gr_vret C hr dX11_shares_189 h
    · replace h := h.2 z37
      refine g_iload_n C dX11_shares_147 rfl 1 rfl ?_
      refine g_iload C dX11_shares_148 3 rfl ?_
      refine gr_callSf C [.int x1, .int x6] rfl (k_X11_has l D T m0 a x1 x6 r q) (w0_S 2 C.2.2.2.2.1 kw_2178 kw_2179 kw_9 kw_2180 rfl rfl (by decide +kernel) ⟨by decide, by decide⟩) rfl (Nat.le_of_ble_eq_true rfl) (Nat.zero_le _) (Nat.zero_le _) dX11_shares_150 ?_
      refine g_if_eq (tgt := 183) C dX11_shares_153 (by decide) (fun z38 => ?_) (fun z38 => ?_)
      · replace h := h.1 z38
        obtain ⟨v39, ev39⟩ : ∃ y : Int32, y = x6 + 1 := ⟨_, rfl⟩
        replace h := h v39 ev39
        refine g_iinc (v := v39) (lv' := [(6, .int v39), (0, .ref m0), (1, .int x1), (5, .int x5)]) C dX11_shares_183 (j := 3) rfl (by rw [ev39]; rfl) (by decide) rfl ?_
        refine g_goto (tgt := 136) C dX11_shares_186 (by decide) ?_
        refine g_locals [1, 2, 3, 0] rfl ?_
        exact ih x1 x5 v39 r q h
      · replace h := h.2 z38
        refine g_iload C dX11_shares_156 2 rfl ?_
        refine g_if_le (tgt := 183) C dX11_shares_158 (by decide) (fun z40 => ?_) (fun z40 => ?_)
        · replace h := h.1 z40
          obtain ⟨v41, ev41⟩ : ∃ y : Int32, y = x6 + 1 := ⟨_, rfl⟩
          replace h := h v41 ev41
          refine g_iinc (v := v41) (lv' := [(6, .int v41), (0, .ref m0), (1, .int x1), (5, .int x5)]) C dX11_shares_183 (j := 3) rfl (by rw [ev41]; rfl) (by decide) rfl ?_
          refine g_goto (tgt := 136) C dX11_shares_186 (by decide) ?_
          refine g_locals [1, 2, 3, 0] rfl ?_
          exact ih x1 x5 v41 r q h
        · replace h := h.2 z40
          refine g_aload_n C dX11_shares_161 rfl 0 rfl ?_
          refine gr_get C iwx_X11 0 (hw kw_1809) (by decide) rfl rfl dX11_shares_162 ?_
          refine g_bipush (v := 14) C dX11_shares_165 (by decide) ?_
          refine g_bipush (v := 26) C dX11_shares_167 (by decide) ?_
          refine g_iload C dX11_shares_169 3 rfl ?_
          refine g_imul C dX11_shares_171 ?_
          refine g_iadd C dX11_shares_172 ?_
          refine g_iconst (v := 5) C dX11_shares_173 (by decide) ?_
          refine g_iadd C dX11_shares_174 ?_
          refine g_dup2 C dX11_shares_175 rfl rfl ?_
          obtain ⟨g42, h⟩ := h
          refine gr_ald_0 C g42 dX11_shares_176 ?_
          refine g_iconst (v := 1) C dX11_shares_177 (by decide) ?_
          refine g_iadd C dX11_shares_178 ?_
          obtain ⟨g43, h⟩ := h
          refine gr_ast_0 C g43 dX11_shares_179 ?_
          refine gr_nq (fun q44 eq44 => ?_)
          replace h := h q44 eq44
          obtain ⟨v45, ev45⟩ : ∃ y : Int32, y = x5 + (-1) := ⟨_, rfl⟩
          replace h := h v45 ev45
          refine g_iinc (v := v45) (lv' := [(5, .int v45), (0, .ref m0), (1, .int x1), (6, .int x6)]) C dX11_shares_180 (j := 2) rfl (by rw [ev45]; rfl) (by decide) rfl ?_
          obtain ⟨v46, ev46⟩ : ∃ y : Int32, y = x6 + 1 := ⟨_, rfl⟩
          replace h := h v46 ev46
          refine g_iinc (v := v46) (lv' := [(6, .int v46), (5, .int v45), (0, .ref m0), (1, .int x1)]) C dX11_shares_183 (j := 3) rfl (by rw [ev46]; rfl) (by decide) rfl ?_
          refine g_goto (tgt := 136) C dX11_shares_186 (by decide) ?_
          refine g_locals [2, 3, 1, 0] rfl ?_
          exact ih x1 v45 v46 r q44 h
def wp_X11_shares (P : RST → Prop) (p0 : Int32) (r : Nat → Int32) (q : Nat → Nat → Int32) : Prop := vp_in p0 1024 ∧ (∀ v2 : Int32, v2 = (q 7 (Int32.toNatClampNeg p0)) → (∃ k49 : Nat, wp_X11_shares_12 (fun (y13 : Int32) (y14 : Int32) (y15 : Int64) (r16 : Nat → Int32) (q17 : Nat → Nat → Int32) => ∃ k48 : Nat, wp_X11_shares_61 (fun (y32 : Int32) (y33 : Int32) (r34 : Nat → Int32) (q35 : Nat → Nat → Int32) => ∃ k47 : Nat, wp_X11_shares_136  P k47 y32 y33 0 r34 q35) P k48 y13 y14 y15 y14 0 r16 q17) P k49 p0 v2 0 0 r q))
set_option maxRecDepth 100000 in
set_option maxHeartbeats 4000000 in
theorem t_X11_shares {p : Program} {l : Launch} {e : Env} {s : State} {m : MethodId} {args : Array Value} {below : List Frame} {meth : Method} {c : Code} {D : va_G} {A : Nat → Prop} {T : Nat → ClassId} {m0 : Nat} {a : Nat → Nat} (C : GC p s m args meth c cX11_shares "FreightRaterModel" (ws_X11_shares) 8 D A (zty T)) (hr : meth.sig.returnType = none) (P : RST → Prop) : ∀ (p0 : Int32) (r : Nat → Int32) (q : Nat → Nat → Int32), wp_X11_shares P p0 r q → GW p l e rm_X11_shares s m args below meth c D A 8 0 0 (MQ below (va_Qv P (RE D T m0 a A) A) args s 0 0 A) (RW m0 a T r q) 0 0 0 [(0, .ref m0), (1, .int p0)] [] := by
  have hw : ∀ {w : Cond}, w ∈ W0 → w.before args s = true := fun h => C.2.2.2.2.1 _ (List.mem_cons_of_mem _ h)
  intro p0 r q h
  unfold wp_X11_shares at h
  refine g_aload_n C dX11_shares_0 rfl 0 rfl ?_
  refine gr_get C iwx_X11 31 (hw kw_1840) (by decide) rfl rfl dX11_shares_1 ?_
  refine g_iload_n C dX11_shares_4 rfl 1 rfl ?_
  obtain ⟨g1, h⟩ := h
  refine gr_ald_7 C g1 dX11_shares_5 ?_
  refine g_topi (fun v2 ev2 => ?_)
  replace h := h v2 ev2
  refine g_istore_n (lv' := [(2, .int v2), (0, .ref m0), (1, .int p0)]) C dX11_shares_6 rfl (by decide) rfl ?_
  refine g_lconst (v := 0) C dX11_shares_7 rfl ?_
  refine g_lstore_n (lv' := [(3, .long 0), (2, .int v2), (0, .ref m0), (1, .int p0)]) C dX11_shares_8 rfl (by decide) rfl ?_
  refine g_iconst (v := 0) C dX11_shares_9 (by decide) ?_
  refine g_istore (lv' := [(5, .int 0), (3, .long 0), (2, .int v2), (0, .ref m0), (1, .int p0)]) C dX11_shares_10 (by decide) rfl ?_
  refine g_locals [3, 4, 2, 1, 0] rfl ?_
  obtain ⟨k49, h⟩ := h
  refine t_X11_shares_12 C hr _ P ?_ k49 p0 v2 0 0 r q h
  · intro y13 y14 y15 r16 q17 h
    refine g_iload_n C dX11_shares_55 rfl 2 rfl ?_
    refine g_istore (lv' := [(5, .int y14), (0, .ref m0), (1, .int y13), (2, .int y14), (3, .long y15)]) C dX11_shares_56 (by decide) rfl ?_
    refine g_iconst (v := 0) C dX11_shares_58 (by decide) ?_
    refine g_istore (lv' := [(6, .int 0), (5, .int y14), (0, .ref m0), (1, .int y13), (2, .int y14), (3, .long y15)]) C dX11_shares_59 (by decide) rfl ?_
    refine g_locals [2, 3, 4, 5, 1, 0] rfl ?_
    obtain ⟨k48, h⟩ := h
    refine t_X11_shares_61 C hr _ P ?_ k48 y13 y14 y15 y14 0 r16 q17 h
    · intro y32 y33 r34 q35 h
      refine g_iconst (v := 0) C dX11_shares_133 (by decide) ?_
      refine g_istore (lv' := [(6, .int 0), (0, .ref m0), (1, .int y32), (5, .int y33)]) C dX11_shares_134 (by decide) rfl ?_
      refine g_locals [1, 2, 3, 0] rfl ?_
      obtain ⟨k47, h⟩ := h
      refine t_X11_shares_136 C hr  P  k47 y32 y33 0 r34 q35 h
theorem c_X11_shares (l : Launch) (D : va_G) (T : Nat → ClassId) (m0 : Nat) (a : Nat → Nat) (p0 : Int32) (r : Nat → Int32) (q : Nat → Nat → Int32) (P : RST → Prop) (h : wp_X11_shares P p0 r q) : RMv l yX11_shares (ws_X11_shares) rm_X11_shares D T m0 a [.ref m0, .int p0] r q P := gr_metv (by decide) rfl rfl (Nat.le_of_ble_eq_true rfl) (fun p e s m args below meth c A C hr => t_X11_shares C hr P p0 r q h)
/-- the weight of a shipment that is rated alone -/
def wsI (μ : Nat → Int32) (s : Nat) : Nat := iv (wtF μ (iv (gvF μ (2 ^ s))) (2 ^ s))
def wSum (μ : Nat → Int32) (g : Nat) : Nat → Nat → Nat → Nat
  | 0, _, x => x
  | k + 1, s, x => wSum μ g k (s + 1) (if g.testBit s = true then x + wsI μ s else x)
def shN (μ : Nat → Int32) (g a s : Nat) : Nat := a * wsI μ s / wSum μ g (iv (μ 1)) 0 0
abbrev SH : Type := (Nat → Int32) × Int32
def s2F (μ : Nat → Int32) (g a : Nat) : Nat → Nat → SH → SH
  | 0, _, x => x
  | k + 1, s, x => s2F μ g a k (s + 1) (if g.testBit s = true then (upd x.1 (14 + 26 * s + 5) (nI (shN μ g a s)), x.2 - nI (shN μ g a s)) else x)
def s3F (g : Nat) : Nat → Nat → SH → SH
  | 0, _, x => x
  | k + 1, s, x => s3F g k (s + 1) (if g.testBit s = true ∧ ¬ x.2 ≤ 0 then (upd x.1 (14 + 26 * s + 5) (x.1 (14 + 26 * s + 5) + 1), x.2 + (-1)) else x)
/-- a group's total is divided -/
def shrF (μ : Nat → Int32) (g a : Nat) : Nat → Int32 := (s3F g (iv (μ 1)) 0 (s2F μ g a (iv (μ 1)) 0 (μ, nI a))).1
def poF (T F : Nat → Int32) : Nat → Nat → (Nat → Int32) → (Nat → Int32)
  | 0, _, μ => μ
  | k + 1, n, μ => if n = 0 then μ else poF T F k (dif n (iv (F n))) (upd (shrF μ (iv (F n)) (iv (T (iv (F n))))) 3 (shrF μ (iv (F n)) (iv (T (iv (F n)))) 3 + 1))
def poC (μ : Nat → Int32) (g : Int32) : Int32 := if lckF μ g 8 = 0 then (if posF μ &&& g = 0 then match rfF μ (iv g) with | none => 0 | some _ => 4 else 3) else lckF μ g 8
/-- all but the shares and the number of the booked ones -/
def eqS (μ μ' : Nat → Int32) : Prop := ∀ k, k ≠ 3 → (∀ s, s < 10 → k ≠ 14 + 26 * s + 5) → μ' k = μ k
def sg0 (μ : Nat → Int32) (g : Nat) : Prop := ∀ s, g.testBit s = true → (rsnD μ (2 ^ s)).1 = 0
theorem eqS.rf {μ : Nat → Int32} : eqS μ μ := fun _ _ _ => rfl
theorem eqS.tr {μ μ1 μ2 : Nat → Int32} (h : eqS μ μ1) (h2 : eqS μ1 μ2) : eqS μ μ2 := fun k h3 h5 => (h2 k h3 h5).trans (h k h3 h5)
theorem eqS.up {μ μ1 : Nat → Int32} (h : eqS μ μ1) {s : Nat} (hs : s < 10) (x : Int32) : eqS μ (upd μ1 (14 + 26 * s + 5) x) := fun k h3 h5 => by rw [pk_un (h5 s hs)]; exact h k h3 h5
theorem eqS.u3 {μ μ1 : Nat → Int32} (h : eqS μ μ1) (x : Int32) : eqS μ (upd μ1 3 x) := fun k h3 h5 => by rw [pk_un h3]; exact h k h3 h5
theorem eqS.v {μ μ' : Nat → Int32} (h : eqS μ μ') {k : Nat} (hk : 254 ≤ k) : μ' k = μ k := h k (by omega) (fun s hs => by omega)
theorem eqS.s {μ μ' : Nat → Int32} (h : eqS μ μ') {s o : Nat} (ho : o < 26) (h5 : o ≠ 5) : μ' (14 + 26 * s + o) = μ (14 + 26 * s + o) := h _ (by omega) (fun t ht => by omega)
theorem vOf_eq {μ μ' : Nat → Int32} (h : eqS μ μ') {d : Int32} : vOf μ' d = vOf μ d := by
  have e0 : μ' 0 = μ 0 := h 0 (by decide) (fun s _ => by omega)
  have : ∀ k v b, vFold μ' d k v b = vFold μ d k v b := by
    intro k
    induction k with
    | zero => intro v b; rfl
    | succ k ih =>
      intro v b
      rw [vFold, vFold, ih]
      congr 1
      rw [h.v (k := 274 + 510 * v) (by omega), h.v (k := 274 + 510 * iv b) (by omega)]
  unfold vOf
  rw [e0, this]
theorem zIn_eq {μ μ' : Nat → Int32} (h : eqS μ μ') {v : Nat} {p : Int32} : zIn μ' v p = zIn μ v p := by
  have : ∀ k i b, zFold μ' v p k i b = zFold μ v p k i b := by
    intro k
    induction k with
    | zero => intro i b; rfl
    | succ k ih =>
      intro i b
      rw [zFold, zFold, ih, h.v (k := 274 + 510 * v + 2 + 3 * i) (by omega), h.v (k := 274 + 510 * v + 2 + 3 * i + 1) (by omega), h.v (k := 274 + 510 * v + 2 + 3 * i + 2) (by omega)]
  unfold zIn
  rw [h.v (k := 274 + 510 * v + 1) (by omega), this]
theorem realF_eq {μ μ' : Nat → Int32} (h : eqS μ μ') (hw : WF μ) {s : Nat} (hs : s < 10) : realF μ' s = realF μ s := by
  obtain ⟨c, hc, ec⟩ := hw.pcs hs
  have : ∀ k p n, p + k ≤ 5 → realFold μ' s k p n = realFold μ s k p n := by
    intro k
    induction k with
    | zero => intro p n _; rfl
    | succ k ih => intro p n hp; rw [realFold, realFold, ih _ _ (by omega), h.s (s := s) (o := 6 + 4 * p + 3) (by omega) (by omega)]
  unfold realF
  rw [h.s (s := s) (o := 4) (by decide) (by decide), ec, show iv (nI c) = c from nI_clamp (by omega), this c 0 0 (by omega)]
theorem longF_eq {μ μ' : Nat → Int32} (h : eqS μ μ') (hw : WF μ) {s : Nat} (hs : s < 10) : longF μ' s = longF μ s := by
  obtain ⟨c, hc, ec⟩ := hw.pcs hs
  have : ∀ k p n, p + k ≤ 5 → longFold μ' s k p n = longFold μ s k p n := by
    intro k
    induction k with
    | zero => intro p n _; rfl
    | succ k ih => intro p n hp; rw [longFold, longFold, ih _ _ (by omega), h.s (s := s) (o := 6 + 4 * p) (by omega) (by omega), h.s (s := s) (o := 6 + 4 * p + 1) (by omega) (by omega), h.s (s := s) (o := 6 + 4 * p + 2) (by omega) (by omega)]
  unfold longF
  rw [h.s (s := s) (o := 4) (by decide) (by decide), ec, show iv (nI c) = c from nI_clamp (by omega), this c 0 0 (by omega)]
theorem dimF_eq {μ μ' : Nat → Int32} (h : eqS μ μ') (hw : WF μ) {s : Nat} {d : Int32} (hs : s < 10) : dimF μ' s d = dimF μ s d := by
  obtain ⟨c, hc, ec⟩ := hw.pcs hs
  have : ∀ k p n, p + k ≤ 5 → dimFold μ' s d k p n = dimFold μ s d k p n := by
    intro k
    induction k with
    | zero => intro p n _; rfl
    | succ k ih =>
      intro p n hp
      rw [dimFold, dimFold, ih _ _ (by omega)]
      unfold volF
      rw [h.s (s := s) (o := 6 + 4 * p) (by omega) (by omega), h.s (s := s) (o := 6 + 4 * p + 1) (by omega) (by omega), h.s (s := s) (o := 6 + 4 * p + 2) (by omega) (by omega)]
  unfold dimF
  rw [h.s (s := s) (o := 4) (by decide) (by decide), ec, show iv (nI c) = c from nI_clamp (by omega), this c 0 0 (by omega)]
theorem gw_eq {μ μ' : Nat → Int32} (h : eqS μ μ') (hw : WF μ) {g : Nat} {d : Int32} : ∀ (k s : Nat) (a b c e f : Int32), s + k ≤ 10 → gwF μ' g d k s a b c e f = gwF μ g d k s a b c e f := by
  intro k
  induction k with
  | zero => intro s a b c e f _; rfl
  | succ k ih =>
    intro s a b c e f hs
    rw [gwF, gwF, realF_eq h hw (by omega), dimF_eq h hw (by omega), longF_eq h hw (by omega), h.s (s := s) (o := 4) (by decide) (by decide), h.s (s := s) (o := 2) (by decide) (by decide), ih _ _ _ _ _ _ (by omega), ih _ _ _ _ _ _ (by omega)]
theorem wt_eq {μ μ' : Nat → Int32} (h : eqS μ μ') (hw : WF μ) {v g : Nat} : wtF μ' v g = wtF μ v g := by
  obtain ⟨ns, hns, ens⟩ := hw.2.1
  unfold wtF gwt
  rw [h.v (k := 274 + 510 * v + 146) (by omega), h 1 (by decide) (fun s _ => by omega), ens, show iv (nI ns) = ns from nI_clamp (by omega), gw_eq h hw _ _ _ _ _ _ _ (by omega)]
theorem gv_eq {μ μ' : Nat → Int32} (h : eqS μ μ') {g : Nat} : gvF μ' g = gvF μ g := by
  unfold gvF dayF
  rw [h.s (s := lowN g) (o := 1) (by decide) (by decide), vOf_eq h]
theorem gz_eq {μ μ' : Nat → Int32} (h : eqS μ μ') {g : Nat} : gzF μ' g = gzF μ g := by
  unfold gzF
  rw [gv_eq h, h.s (s := lowN g) (o := 0) (by decide) (by decide), zIn_eq h]
theorem ws_eq {μ μ' : Nat → Int32} (h : eqS μ μ') (hw : WF μ) {s : Nat} : wsI μ' s = wsI μ s := by
  unfold wsI
  rw [gv_eq h, wt_eq h hw]
theorem ho_eq {μ μ' : Nat → Int32} (h : eqS μ μ') {g s : Nat} {hd : Int32} : hoF μ' g s hd = hoF μ g s hd := by
  have : ∀ k o a, hoFold μ' g s hd k o a = hoFold μ g s hd k o a := by
    intro k
    induction k with
    | zero => intro o a; rfl
    | succ k ih => intro o a; rw [hoFold, hoFold, ih, h.s (s := o) (o := 2) (by decide) (by decide)]
  unfold hoF
  rw [h 1 (by decide) (fun s _ => by omega), this]
theorem cl_eq {μ μ' : Nat → Int32} (h : eqS μ μ') {g s : Nat} : clF μ' g s = clF μ g s := by
  unfold clF
  rw [h.s (s := s) (o := 2) (by decide) (by decide), ho_eq h, ho_eq h]
theorem rs_eq {μ μ' : Nat → Int32} (h : eqS μ μ') {gv rs g s : Nat} : rsF μ' gv rs g s = rsF μ gv rs g s := by
  unfold rsF
  rw [h.s (s := s) (o := 4) (by decide) (by decide), h.s (s := s) (o := 1) (by decide) (by decide), h.s (s := lowN g) (o := 1) (by decide) (by decide), zIn_eq h, zIn_eq h, cl_eq h]
  first | rfl | (rw [h.s (s := s) (o := 0) (by decide) (by decide), h.s (s := lowN g) (o := 0) (by decide) (by decide)])
theorem fir_eq {μ μ' : Nat → Int32} (h : eqS μ μ') {gv rs g : Nat} : firF μ' gv rs g = firF μ gv rs g := by
  have : ∀ k s, firFold μ' gv rs g k s = firFold μ gv rs g k s := by
    intro k
    induction k with
    | zero => intro s; rfl
    | succ k ih => intro s; rw [firFold, firFold, ih, rs_eq h]
  unfold firF
  rw [h 1 (by decide) (fun s _ => by omega), this]
theorem rsn_eq {μ μ' : Nat → Int32} (h : eqS μ μ') (hw : WF μ) {g : Nat} : rsnD μ' g = rsnD μ g := by
  have e1 := h.v (k := 274 + 510 * iv (gvF μ g) + 38 + iv (gzF μ g) - 1) (by omega)
  have e2 := h.v (k := 274 + 510 * iv (gvF μ g) + 149) (by omega)
  have e3 : dayF μ' g = dayF μ g := by unfold dayF; exact h.s (s := lowN g) (o := 1) (by decide) (by decide)
  unfold rsnD
  simp only [fir_eq h, gv_eq h, gz_eq h, wt_eq h hw, e3, e1, e2]
theorem sg0.eq {μ μ' : Nat → Int32} (h : eqS μ μ') (hw : WF μ) {g : Nat} (hs : sg0 μ g) : sg0 μ' g := fun s hs9 => by rw [rsn_eq h hw]; exact hs s hs9
theorem wSum_eq {μ μ' : Nat → Int32} (h : eqS μ μ') (hw : WF μ) {g : Nat} : ∀ k s x, wSum μ' g k s x = wSum μ g k s x := by
  intro k
  induction k with
  | zero => intro s x; rfl
  | succ k ih => intro s x; rw [wSum, wSum, ih, ws_eq h hw]
theorem up5_wf {μ : Nat → Int32} (hw : WF μ) {s : Nat} {x : Int32} (hs : s < 10) (hx : 0 ≤ x) : WF (upd μ (14 + 26 * s + 5) x) := by
  obtain ⟨h1, h2, h3, h4, h5⟩ := hw
  refine ⟨sm_cg (pk_un (by omega)) h1, sm_cg (pk_un (by omega)) h2, sm_cg (pk_un (by omega)) h3, fun v hv => WFV_cg (pk_un (by omega)) (fun o ho => pk_un (by omega)) (h4 v hv), fun t ht => ?_⟩
  by_cases e : t = s
  · subst e
    obtain ⟨g1, g2, g3, g4, g5, g6⟩ := h5 t ht
    refine ⟨sm_cg (pk_un (by omega)) g1, sm_cg (pk_un (by omega)) g2, sm_cg (pk_un (by omega)) g3, Or.inr (by rw [pk_us]; exact hx), fun p hp => ⟨fun k hk => sm_cg (pk_un (by omega)) ((g5 p hp).1 k hk), sm_cg (pk_un (by omega)) (g5 p hp).2⟩, fun n hn hn5 p hp k hk => ?_⟩
    rw [pk_un (by omega)] at hn ⊢
    exact g6 n hn hn5 p hp k hk
  · exact WFS_cg (fun o ho => pk_un (by omega)) (h5 t ht)
theorem up3_wf {μ : Nat → Int32} (hw : WF μ) {x : Int32} : WF (upd μ 3 x) := by
  obtain ⟨h1, h2, h3, h4, h5⟩ := hw
  exact ⟨sm_cg (pk_un (by omega)) h1, sm_cg (pk_un (by omega)) h2, sm_cg (pk_un (by omega)) h3, fun v hv => WFV_cg (pk_un (by omega)) (fun o ho => pk_un (by omega)) (h4 v hv), fun t ht => WFS_cg (fun o ho => pk_un (by omega)) (h5 t ht)⟩
theorem real_pos {μ : Nat → Int32} (hw : WF μ) {s : Nat} (hs : s < 10) (h : ¬ μ (14 + 26 * s + 4) = 0) : ∃ m, 1 ≤ m ∧ m ≤ 4995 ∧ realF μ s = nI m := by
  obtain ⟨c, hc, ec⟩ := hw.pcs hs
  have gen : ∀ k p a, p + k ≤ 5 → ∃ m, a ≤ m ∧ realFold μ s k p (nI a) = nI m := by
    intro k
    induction k with
    | zero => intro p a _; exact ⟨a, Nat.le_refl _, rfl⟩
    | succ k ih =>
      intro p a hp
      obtain ⟨w, hw9, ew⟩ := ((hw.s hs).2.2.2.2.1 p (by omega)).2
      rw [realFold, ew, nI_add]
      obtain ⟨m, hm, em⟩ := ih (p + 1) (a + w) (by omega)
      exact ⟨m, by omega, em⟩
  have hc0 : 0 < c := by
    rcases Nat.eq_zero_or_pos c with e | e
    · subst e; exact absurd ec h
    · exact e
  obtain ⟨w, hw9, ew⟩ := ((hw.s hs).2.2.2.2.1 0 (by decide)).2
  have hw0 : 0 < w := by
    rcases Nat.eq_zero_or_pos w with e | e
    · subst e; exact absurd ew ((hw.s hs).2.2.2.2.2 c ec hc 0 hc0 3 (by decide))
    · exact e
  obtain ⟨c', rfl⟩ : ∃ c', c = c' + 1 := ⟨c - 1, by omega⟩
  have hF : realF μ s = realFold μ s c' 1 (nI w) := by
    unfold realF
    rw [ec, show iv (nI (c' + 1)) = c' + 1 from nI_clamp (by omega), realFold, ew, nI_0a]
  obtain ⟨m, hm, em⟩ := gen c' 1 w (by omega)
  obtain ⟨m2, hm2, em2⟩ := realF_bn hw hs
  refine ⟨m2, ?_, hm2, em2⟩
  rcases Nat.eq_zero_or_pos m2 with e | e
  · subst e
    rw [hF, em] at em2
    -- the sum is at least the first weight
    obtain ⟨m3, hm3, em3⟩ : ∃ m3, m3 ≤ 999 + 999 * c' ∧ realFold μ s c' 1 (nI w) = nI m3 := by
      have gen2 : ∀ k p a B, p + k ≤ 5 → a ≤ B → ∃ m, a ≤ m ∧ m ≤ B + 999 * k ∧ realFold μ s k p (nI a) = nI m := by
        intro k
        induction k with
        | zero => intro p a B _ h; exact ⟨a, Nat.le_refl _, by omega, rfl⟩
        | succ k ih =>
          intro p a B hp h
          obtain ⟨w', hw', ew'⟩ := ((hw.s hs).2.2.2.2.1 p (by omega)).2
          rw [realFold, ew', nI_add]
          obtain ⟨m, h1, h2, h3⟩ := ih (p + 1) (a + w') (B + 999) (by omega) (by omega)
          exact ⟨m, by omega, by omega, h3⟩
      obtain ⟨m, h1, h2, h3⟩ := gen2 c' 1 w 999 (by omega) hw9
      exact ⟨m, h2, h3⟩
    have gen3 : ∃ m, w ≤ m ∧ m ≤ 999 + 999 * c' ∧ realFold μ s c' 1 (nI w) = nI m := by
      have gen2 : ∀ k p a B, p + k ≤ 5 → a ≤ B → ∃ m, a ≤ m ∧ m ≤ B + 999 * k ∧ realFold μ s k p (nI a) = nI m := by
        intro k
        induction k with
        | zero => intro p a B _ h; exact ⟨a, Nat.le_refl _, by omega, rfl⟩
        | succ k ih =>
          intro p a B hp h
          obtain ⟨w', hw', ew'⟩ := ((hw.s hs).2.2.2.2.1 p (by omega)).2
          rw [realFold, ew', nI_add]
          obtain ⟨m, h1, h2, h3⟩ := ih (p + 1) (a + w') (B + 999) (by omega) (by omega)
          exact ⟨m, by omega, by omega, h3⟩
      exact gen2 c' 1 w 999 (by omega) hw9
    obtain ⟨m4, h4, h5, h6⟩ := gen3
    rw [em, em2] at h6
    have := (nI_eq (a := 0) (b := m4) (by decide) (by omega)).mp h6
    omega
  · exact e
theorem gw_one {μ : Nat → Int32} {s : Nat} {d : Int32} : ∀ (k t : Nat) (a b c e f : Int32), (gwF μ (2 ^ s) d k t a b c e f).1 = if t ≤ s ∧ s < t + k then a + realF μ s else a := by
  intro k
  induction k with
  | zero => intro t a b c e f; rw [if_neg (by omega)]; rfl
  | succ k ih =>
    intro t a b c e f
    rw [gwF]
    by_cases h : (2 ^ s).testBit t = true
    · have e9 : s = t := by rw [Nat.testBit_two_pow] at h; exact of_decide_eq_true h
      subst e9
      rw [if_pos h, ih, if_neg (by omega), if_pos (by omega)]
    · have e9 : s ≠ t := fun e9 => h (by rw [Nat.testBit_two_pow]; exact decide_eq_true e9)
      rw [if_neg h, ih]
      by_cases c9 : t + 1 ≤ s ∧ s < t + 1 + k
      · rw [if_pos c9, if_pos (by omega)]
      · rw [if_neg c9, if_neg (by omega)]
theorem ws_bn {μ : Nat → Int32} (hw : WF μ) {s ns : Nat} (hns : μ 1 = nI ns) (hns10 : ns ≤ 10) (hs : s < ns) (h : (rsnD μ (2 ^ s)).1 = 0) : 1 ≤ wsI μ s ∧ wsI μ s ≤ 40005 ∧ wtF μ (iv (gvF μ (2 ^ s))) (2 ^ s) = nI (wsI μ s) := by
  have h2s : 2 ^ s < 1024 := Nat.lt_of_lt_of_le (Nat.pow_lt_pow_right (by decide) hs) (p2_le hns10)
  obtain ⟨hvk, _, _⟩ := rsn0 hw (gok.tb (n := 0) hns hns10 hs) h2s h
  obtain ⟨v, hv, ev⟩ := hvk.x
  have iev : iv (gvF μ (2 ^ s)) = v := by rw [ev]; exact nI_clamp (by omega)
  have hp1 : ∀ s : Nat, s < 10 → popN (2 ^ s) = 1 := by decide
  obtain ⟨m, hm, em⟩ := wt_bn hw (g := 2 ^ s) hvk ev hv
  rw [hp1 s (by omega)] at hm
  have hpc : ¬ μ (14 + 26 * s + 4) = 0 := by
    intro z9
    unfold rsnD at h
    cases hf : firF μ 0 1 (2 ^ s) with
    | some t => rw [hf] at h; exact absurd h (by show ¬ (1 : Nat) = 0; decide)
    | none =>
      unfold firF at hf
      rw [hns, show iv (nI ns) = ns from nI_clamp (by omega)] at hf
      have := firFold_none ns 0 hf s (Nat.zero_le _) (by omega) (by rw [Nat.testBit_two_pow]; exact decide_eq_true rfl)
      unfold rsF at this
      rw [if_pos rfl, if_pos z9] at this
      exact absurd this (by decide)
  obtain ⟨rm, h1, h2, h3⟩ := real_pos hw (s := s) (by omega) hpc
  have hm1 : 1 ≤ m := by
    have hg : (gwt μ v (2 ^ s)).1 = nI rm := by
      unfold gwt
      rw [gw_one, hns, show iv (nI ns) = ns from nI_clamp (by omega), if_pos (by omega), h3, nI_0a]
    unfold wtF mxF at em
    rw [hg] at em
    split at em
    · rename_i c
      rw [em] at c
      have := (nI_ltI (a := rm) (b := m) (by omega) (by omega)).mp c
      omega
    · have := (nI_eq (a := rm) (b := m) (by omega) (by omega)).mp em
      omega
  unfold wsI
  rw [iev, em, show iv (nI m) = m from nI_clamp (by omega)]
  exact ⟨hm1, by omega, rfl⟩
theorem i64n {w : Nat} (h : w < 2 ^ 31) : Int32.toInt64 (nI w) = Int64.ofNat w := by
  apply Int64.toInt_inj.mp
  rw [Int32.toInt_toInt64, nI_toInt h, Int64.toInt_ofNat_of_lt (by omega)]
theorem shr_n {a w W : Nat} (ha : a < 2 ^ 31) (hw : w ≤ W) (hW : 0 < W) (hW2 : W < 2 ^ 31) : Int64.toInt32 (Int32.toInt64 (nI a) * Int32.toInt64 (nI w) / Int64.ofNat W) = nI (a * w / W) := by
  have hI : ((a * w : Nat) : Int) = (a : Int) * (w : Int) := Int.natCast_mul a w
  have haw : a * w ≤ a * W := Nat.mul_le_mul_left a hw
  have hq : a * w / W ≤ a := Nat.div_le_of_le_mul (by rw [Nat.mul_comm W a]; exact haw)
  have hb : a * w < 2 ^ 62 := by
    have h1 : a * w ≤ (2 ^ 31 - 1) * (2 ^ 31 - 1) := Nat.mul_le_mul (by omega) (by omega)
    exact Nat.lt_of_le_of_lt h1 (by decide)
  have e1 : (Int32.toInt64 (nI a) * Int32.toInt64 (nI w)).toInt = ((a * w : Nat) : Int) := by
    rw [Int64.toInt_mul, Int32.toInt_toInt64, Int32.toInt_toInt64, nI_toInt ha, nI_toInt (by omega), ← hI]
    exact Int.bmod_eq_of_le (by omega) (by omega)
  have eW : (Int64.ofNat W).toInt = (W : Int) := Int64.toInt_ofNat_of_lt (by omega)
  have hne : Int64.ofNat W ≠ -1 := fun z9 => by
    have := congrArg Int64.toInt z9
    rw [eW, show (-1 : Int64).toInt = -1 from by decide] at this
    omega
  have e3 : (Int32.toInt64 (nI a) * Int32.toInt64 (nI w) / Int64.ofNat W).toInt = ((a * w / W : Nat) : Int) := by
    rw [Int64.toInt_div_of_ne_right _ _ hne, e1, eW, Int.tdiv_eq_ediv_of_nonneg (by omega)]
    exact (Int.natCast_ediv _ _).symm
  generalize a * w / W = Q at hq e3 ⊢
  apply Int32.toInt_inj.mp
  rw [Int64.toInt_toInt32, e3, nI_toInt (by omega)]
  exact Int.bmod_eq_of_le (by omega) (by omega)
theorem wSum_ge {μ : Nat → Int32} {g : Nat} : ∀ k s x, x ≤ wSum μ g k s x ∧ ∀ t, s ≤ t → t < s + k → g.testBit t = true → x + wsI μ t ≤ wSum μ g k s x := by
  intro k
  induction k with
  | zero => intro s x; exact ⟨Nat.le_refl _, fun t h1 h2 => by omega⟩
  | succ k ih =>
    intro s x
    rw [wSum]
    by_cases h : g.testBit s = true
    · rw [if_pos h]
      obtain ⟨h1, h2⟩ := ih (s + 1) (x + wsI μ s)
      refine ⟨by omega, fun t t1 t2 ht => ?_⟩
      rcases Nat.eq_or_lt_of_le t1 with e | e
      · subst e; exact h1
      · have := h2 t (by omega) (by omega) ht; omega
    · rw [if_neg h]
      obtain ⟨h1, h2⟩ := ih (s + 1) x
      refine ⟨h1, fun t t1 t2 ht => ?_⟩
      rcases Nat.eq_or_lt_of_le t1 with e | e
      · subst e; exact absurd ht h
      · exact h2 t (by omega) (by omega) ht
theorem wSum_le {μ : Nat → Int32} {g : Nat} : ∀ k s x, (∀ t, s ≤ t → t < s + k → g.testBit t = true → wsI μ t ≤ 40005) → wSum μ g k s x ≤ x + 40005 * k := by
  intro k
  induction k with
  | zero => intro s x _; exact Nat.le_refl _
  | succ k ih =>
    intro s x h
    rw [wSum]
    by_cases hb : g.testBit s = true
    · rw [if_pos hb]
      have := ih (s + 1) (x + wsI μ s) (fun t t1 t2 ht => h t (by omega) (by omega) ht)
      have h9 := h s (Nat.le_refl _) (by omega) hb
      omega
    · rw [if_neg hb]
      have := ih (s + 1) x (fun t t1 t2 ht => h t (by omega) (by omega) ht)
      omega
theorem sg0_of {μ : Nat → Int32} {n : Nat} (hg : gok μ (nI n)) (hn : n < 1024) (h : rfF μ n = none) : sg0 μ n := by
  intro s hs
  obtain ⟨m, ns, hns, hns10, h0, hlt, e⟩ := hg
  have em : m = n := ((nI_eq (by omega) (by have := p2_le hns10; omega)).mp e).symm
  subst em
  have hsn : s < ns := by
    rcases Nat.lt_or_ge s ns with q9 | q9
    · exact q9
    · have : m < 2 ^ s := Nat.lt_of_lt_of_le hlt (Nat.pow_le_pow_right (by decide) q9)
      rw [Nat.testBit_lt_two_pow this] at hs
      cases hs
  unfold rfF at h
  rw [hns, show iv (nI ns) = ns from nI_clamp (by omega)] at h
  exact rf_none ns 0 h s (Nat.zero_le _) (by omega) hs
theorem shN_le {μ : Nat → Int32} {g a s ns : Nat} (hns : iv (μ 1) = ns) (hs : s < ns) (ht : g.testBit s = true) : shN μ g a s ≤ a := by
  unfold shN
  rw [hns]
  have := (wSum_ge (μ := μ) (g := g) ns 0 0).2 s (Nat.zero_le _) (by omega) ht
  exact Nat.div_le_of_le_mul (by rw [Nat.mul_comm _ a]; exact Nat.mul_le_mul_left a (by omega))
def shB (μ : Nat → Int32) (g lo hi : Nat) : Prop := ∀ t, lo ≤ t → t < hi → g.testBit t = true → bn (μ (14 + 26 * t + 5)) 1000000000
theorem s2_ok {μ : Nat → Int32} {g a ns : Nat} (hns : iv (μ 1) = ns) (hns10 : ns ≤ 10) (ha : a ≤ 1000000000) : ∀ (k s : Nat) (x : SH), s + k = ns → eqS μ x.1 → WF x.1 → shB x.1 g 0 s → eqS μ (s2F μ g a k s x).1 ∧ WF (s2F μ g a k s x).1 ∧ shB (s2F μ g a k s x).1 g 0 ns := by
  intro k
  induction k with
  | zero =>
    intro s x hs h1 h2 h3
    have e : s = ns := by omega
    rw [← e]
    exact ⟨h1, h2, h3⟩
  | succ k ih =>
    intro s x hs h1 h2 h3
    rw [s2F]
    by_cases ht : g.testBit s = true
    · rw [if_pos ht]
      have hl := shN_le (a := a) hns (by omega) ht
      refine ih (s + 1) _ (by omega) (h1.up (by omega) _) (up5_wf h2 (by omega) (nI_pos' (by omega))) (fun t t1 t2 ht9 => ?_)
      dsimp only
      by_cases e : t = s
      · subst e; rw [pk_us]; exact ⟨_, by omega, rfl⟩
      · rw [pk_un (by omega)]; exact h3 t t1 (by omega) ht9
    · rw [if_neg ht]
      refine ih (s + 1) _ (by omega) h1 h2 (fun t t1 t2 ht9 => ?_)
      by_cases e : t = s
      · subst e; exact absurd ht9 ht
      · exact h3 t t1 (by omega) ht9
theorem s3_ok {μ : Nat → Int32} {g ns : Nat} (hns10 : ns ≤ 10) : ∀ (k s : Nat) (x : SH), s + k = ns → eqS μ x.1 → WF x.1 → shB x.1 g s ns → eqS μ (s3F g k s x).1 ∧ WF (s3F g k s x).1 := by
  intro k
  induction k with
  | zero => intro s x hs h1 h2 h3; exact ⟨h1, h2⟩
  | succ k ih =>
    intro s x hs h1 h2 h3
    rw [s3F]
    by_cases ht : g.testBit s = true ∧ ¬ x.2 ≤ 0
    · rw [if_pos ht]
      obtain ⟨m, hm, em⟩ := h3 s (Nat.le_refl _) (by omega) ht.1
      refine ih (s + 1) _ (by omega) (h1.up (by omega) _) (up5_wf h2 (by omega) (by rw [em, nI_1]; exact nI_pos' (by omega))) (fun t t1 t2 ht9 => ?_)
      dsimp only
      rw [pk_un (by omega)]
      exact h3 t (by omega) t2 ht9
    · rw [if_neg ht]
      exact ih (s + 1) _ (by omega) h1 h2 (fun t t1 t2 ht9 => h3 t (by omega) t2 ht9)
theorem shr_ok {μ : Nat → Int32} (hw : WF μ) {g a : Nat} (ha : a ≤ 1000000000) : eqS μ (shrF μ g a) ∧ WF (shrF μ g a) := by
  obtain ⟨ns, hns, ens⟩ := hw.2.1
  have ins : iv (μ 1) = ns := by rw [ens]; exact nI_clamp (by omega)
  unfold shrF
  rw [ins]
  obtain ⟨h1, h2, h3⟩ := s2_ok (μ := μ) (g := g) (a := a) ins hns ha ns 0 (μ, nI a) (by omega) eqS.rf hw (fun t _ t2 _ => absurd t2 (Nat.not_lt_zero t))
  exact s3_ok hns ns 0 _ (by omega) h1 h2 h3
theorem rl_s12 {P : RST → Prop} {K : Int32 → Int32 → Int64 → (Nat → Int32) → (Nat → Nat → Int32) → Prop} {q : Nat → Nat → Int32} {g ns : Nat} {y : Int32} (hw : WF (q 0)) (hg : g < 1024) (hns : q 0 1 = nI ns) (hns10 : ns ≤ 10) (h0 : sg0 (q 0) g) : ∀ (k s fuel x : Nat) (r : Nat → Int32), s + k = ns → k < fuel → (∀ r1, kR r r1 [17, 18, 19, 20, 21, 22, 23] → K (nI g) y (Int64.ofNat (wSum (q 0) g k s x)) r1 q) → wp_X11_shares_12 K P fuel (nI g) y (Int64.ofNat x) (nI s) r q := by
  intro k
  induction k with
  | zero =>
    intro s fuel x r hs hf hK
    obtain ⟨f, rfl⟩ : ∃ f, fuel = f + 1 := ⟨fuel - 1, by omega⟩; rw [wp_X11_shares_12]; unfold wb_X11_shares_12; dsimp only
    rw [cl_1, hns, nI_leI (by omega) (by omega), nz_vp1 (by decide)]
    exact ⟨by decide, fun _ => hK r kR.rf, fun z9 => absurd (by omega) z9⟩
  | succ k ih =>
    intro s fuel x r hs hf hK
    have hh := has_0 (n := g) (s := s) hg (by omega)
    have h2s : (2 : Nat) ^ s < 1024 := Nat.lt_of_lt_of_le (Nat.pow_lt_pow_right (by decide) (show s < ns by omega)) (p2_le hns10)
    obtain ⟨f, rfl⟩ : ∃ f, fuel = f + 1 := ⟨fuel - 1, by omega⟩; rw [wp_X11_shares_12]; unfold wb_X11_shares_12; dsimp only
    rw [cl_1, hns, nI_leI (by omega) (by omega), nz_vp1 (by decide), hh, sh1 (by omega), show iv (nI (2 ^ s)) = 2 ^ s from nI_clamp (by omega), nI_1]
    rw [wSum] at hK
    refine ⟨by decide, fun z9 => absurd z9 (by omega), fun _ => ⟨fun c v6 e6 => ?_, fun c => ⟨⟨hw, gok.tb (n := 0) hns hns10 (by omega)⟩, fun v7 r8 q9 hr v11 e11 v12 e12 => ?_⟩⟩⟩
    · subst e6
      rw [if_neg c] at hK
      exact ih (s + 1) f x r (by omega) (by omega) hK
    · subst e12
      have ht : g.testBit s = true := by simpa using c
      rw [if_pos ht] at hK
      obtain ⟨a1, a2, a3, a4, a5⟩ := hr
      subst a2
      have hr0 := h0 s ht
      obtain ⟨b1, b2, b3⟩ := ws_bn hw hns hns10 (s := s) (by omega) hr0
      have e20 := (a5 hr0).2.2.1
      rw [b3] at e20
      have e11' : v11 = Int64.ofNat (x + wsI (q9 0) s) := by
        rw [e11, e20, i64n (by omega), Int64.ofNat_add]
      subst e11'
      exact ih (s + 1) f (x + wsI (q9 0) s) r8 (by omega) (by omega) (fun r1 g1 => hK r1 (a3.tr g1 (fun _ h => h) (fun _ h => h)))
theorem rl_s61 {P : RST → Prop} {K : Int32 → Int32 → (Nat → Int32) → (Nat → Nat → Int32) → Prop} {μ : Nat → Int32} {g a ns W : Nat} (hw : WF μ) (hg : g < 1024) (hns : μ 1 = nI ns) (hns10 : ns ≤ 10) (h0 : sg0 μ g) (ha : a ≤ 1000000000) (hW : W = wSum μ g ns 0 0) (hW0 : 0 < W) (hW2 : W < 2 ^ 31) : ∀ (k s fuel : Nat) (x : Int32) (r : Nat → Int32) (q : Nat → Nat → Int32), s + k = ns → k < fuel → eqS μ (q 0) → WF (q 0) → (∀ r1 q1, kR r r1 [17, 18, 19, 20, 21, 22, 23] → kQ q q1 [0] → q1 0 = (s2F μ g a k s (q 0, x)).1 → K (nI g) (s2F μ g a k s (q 0, x)).2 r1 q1) → wp_X11_shares_61 K P fuel (nI g) (nI a) (Int64.ofNat W) x (nI s) r q := by
  have ins : iv (μ 1) = ns := by rw [hns]; exact nI_clamp (by omega)
  intro k
  induction k with
  | zero =>
    intro s fuel x r q hs hf he hwq hK
    have e1 : q 0 1 = nI ns := (he 1 (by decide) (fun s _ => by omega)).trans hns
    obtain ⟨f, rfl⟩ : ∃ f, fuel = f + 1 := ⟨fuel - 1, by omega⟩; rw [wp_X11_shares_61]; unfold wb_X11_shares_61; dsimp only
    rw [cl_1, e1, nI_leI (by omega) (by omega), nz_vp1 (by decide)]
    exact ⟨by decide, fun _ => hK r q kR.rf kQ.rf rfl, fun z9 => absurd (by omega) z9⟩
  | succ k ih =>
    intro s fuel x r q hs hf he hwq hK
    have e1 : q 0 1 = nI ns := (he 1 (by decide) (fun s _ => by omega)).trans hns
    have hh := has_0 (n := g) (s := s) hg (by omega)
    have h2s : (2 : Nat) ^ s < 1024 := Nat.lt_of_lt_of_le (Nat.pow_lt_pow_right (by decide) (show s < ns by omega)) (p2_le hns10)
    obtain ⟨f, rfl⟩ : ∃ f, fuel = f + 1 := ⟨fuel - 1, by omega⟩; rw [wp_X11_shares_61]; unfold wb_X11_shares_61; dsimp only
    rw [cl_1, e1, nI_leI (by omega) (by omega), nz_vp1 (by decide), hh, sh1 (by omega), show iv (nI (2 ^ s)) = 2 ^ s from nI_clamp (by omega), nI_1]
    rw [s2F] at hK
    refine ⟨by decide, fun z9 => absurd z9 (by omega), fun _ => ⟨fun c v6 e6 => ?_, fun c => ⟨⟨hwq, gok.tb (n := 0) e1 hns10 (by omega)⟩, fun v22 r23 q24 hr => ⟨?_, fun v27 e27 => ?_⟩⟩⟩⟩
    · subst e6
      rw [if_neg c] at hK
      exact ih (s + 1) f x r q (by omega) (by omega) he hwq hK
    · intro z9
      have := congrArg Int64.toInt z9
      rw [Int64.toInt_ofNat_of_lt (by omega), show (0 : Int64).toInt = 0 from by decide] at this
      omega
    · have ht : g.testBit s = true := by simpa using c
      rw [if_pos ht] at hK
      obtain ⟨a1, a2, a3, a4, a5⟩ := hr
      subst a2
      have hr0 : (rsnD (q24 0) (2 ^ s)).1 = 0 := by rw [rsn_eq he hw]; exact h0 s ht
      obtain ⟨b1, b2, b3⟩ := ws_bn hwq e1 hns10 (s := s) (by omega) hr0
      have e20 := (a5 hr0).2.2.1
      rw [b3, ws_eq he hw] at e20
      rw [ws_eq he hw] at b1 b2
      have hle : wsI μ s ≤ W := by
        rw [hW]
        have := (wSum_ge (μ := μ) (g := g) ns 0 0).2 s (Nat.zero_le _) (by omega) ht
        omega
      have e27' : v27 = nI (shN μ g a s) := by
        rw [e27, e20, shr_n (by omega) hle hW0 hW2]
        unfold shN
        rw [ins, hW]
      clear e27
      subst e27'
      have hl := shN_le (a := a) ins (by omega) ht
      have ex : (14 : Int32) + 26 * nI s + 5 = nI (14 + 26 * s + 5) := by simp (disch := omega) only [li_2, li_3, li_4, li_5, li_6, li_7, li_8, li_9, li_10, li_12, li_14, li_20, li_26, li_30, li_31, li_36, li_38, li_47, li_48, li_50, li_57, li_58, li_80, li_98, li_99, li_100, li_102, li_104, li_105, li_108, li_109, li_110, li_114, li_115, li_119, li_122, li_137, li_146, li_147, li_148, li_149, li_150, li_200, li_255, li_256, li_274, li_510, li_512, li_640, li_999, li_1000, li_1024, li_3334, li_5000, li_9999, li_10000, li_23338, li_26672, li_30000, li_99999, li_150000, li_300000, pk_mul, nI_add, pk_sub, nI_clamp, nI_1, nI_p1, nI_a0, nI_0a, nI_m0, nI_m1, cl_0, cl_1, z01, z11]
      rw [ex, nz_vp (by omega) (by decide), nI_clamp (n := 14 + 26 * s + 5) (by omega)]
      refine ⟨by omega, fun q29 e29 v30 e30 v31 e31 => ?_⟩
      subst e30 e31
      have k29 : kQ q24 q29 [0] := by rw [e29]; exact kQ.rf.up (by decide) _
      have e0 : q29 0 = upd (q24 0) (14 + 26 * s + 5) (nI (shN μ g a s)) := by rw [e29, va_up_self]
      refine ih (s + 1) f _ r23 q29 (by omega) (by omega) (by rw [e0]; exact he.up (by omega) _) (by rw [e0]; exact up5_wf hwq (by omega) (nI_pos' (by omega))) (fun r1 q1 g1 g2 g3 => ?_)
      rw [e0] at g3 ⊢
      exact hK r1 q1 (a3.tr g1 (fun _ h => h) (fun _ h => h)) (k29.tr g2 (fun _ h => h) (fun _ h => h)) g3
theorem rl_s136 {P : RST → Prop} {r : Nat → Int32} {g ns : Nat} (hg : g < 1024) (hns10 : ns ≤ 10) : ∀ (k s fuel : Nat) (x : Int32) (q : Nat → Nat → Int32), s + k = ns → k < fuel → q 0 1 = nI ns → (∀ q1, kQ q q1 [0] → q1 0 = (s3F g k s (q 0, x)).1 → P (r, q1)) → wp_X11_shares_136 P fuel (nI g) x (nI s) r q := by
  intro k
  induction k with
  | zero =>
    intro s fuel x q hs hf e1 hP
    obtain ⟨f, rfl⟩ : ∃ f, fuel = f + 1 := ⟨fuel - 1, by omega⟩; rw [wp_X11_shares_136]; unfold wb_X11_shares_136; dsimp only
    rw [cl_1, e1, nI_leI (by omega) (by omega), nz_vp1 (by decide)]
    exact ⟨by decide, fun _ => hP q kQ.rf rfl, fun z9 => absurd (by omega) z9⟩
  | succ k ih =>
    intro s fuel x q hs hf e1 hP
    have hh := has_0 (n := g) (s := s) hg (by omega)
    obtain ⟨f, rfl⟩ : ∃ f, fuel = f + 1 := ⟨fuel - 1, by omega⟩; rw [wp_X11_shares_136]; unfold wb_X11_shares_136; dsimp only
    have ex : (14 : Int32) + 26 * nI s + 5 = nI (14 + 26 * s + 5) := by simp (disch := omega) only [li_2, li_3, li_4, li_5, li_6, li_7, li_8, li_9, li_10, li_12, li_14, li_20, li_26, li_30, li_31, li_36, li_38, li_47, li_48, li_50, li_57, li_58, li_80, li_98, li_99, li_100, li_102, li_104, li_105, li_108, li_109, li_110, li_114, li_115, li_119, li_122, li_137, li_146, li_147, li_148, li_149, li_150, li_200, li_255, li_256, li_274, li_510, li_512, li_640, li_999, li_1000, li_1024, li_3334, li_5000, li_9999, li_10000, li_23338, li_26672, li_30000, li_99999, li_150000, li_300000, pk_mul, nI_add, pk_sub, nI_clamp, nI_1, nI_p1, nI_a0, nI_0a, nI_m0, nI_m1, cl_0, cl_1, z01, z11]
    rw [cl_1, e1, nI_leI (by omega) (by omega), nz_vp1 (by decide), hh, nI_1, ex, nz_vp (by omega) (by decide), nI_clamp (n := 14 + 26 * s + 5) (by omega)]
    rw [s3F] at hP
    have skip : ¬ (g.testBit s = true ∧ ¬ x ≤ 0) → ∀ v : Int32, v = nI (s + 1) → wp_X11_shares_136 P f (nI g) x v r q := fun hn v e => by
      subst e
      rw [if_neg hn] at hP
      exact ih (s + 1) f x q (by omega) (by omega) e1 hP
    refine ⟨by decide, fun z9 => absurd z9 (by omega), fun _ => ⟨fun c => skip (fun w9 => c w9.1), fun c => ⟨fun c2 => skip (fun w9 => w9.2 c2), fun c2 => ⟨by omega, by omega, fun q44 e44 v45 e45 v46 e46 => ?_⟩⟩⟩⟩
    subst e45 e46
    rw [if_pos ⟨by simpa using c, c2⟩] at hP
    have k44 : kQ q q44 [0] := by rw [e44]; exact kQ.rf.up (by decide) _
    have e0 : q44 0 = upd (q 0) (14 + 26 * s + 5) (q 0 (14 + 26 * s + 5) + 1) := by rw [e44, va_up_self]
    refine ih (s + 1) f _ q44 (by omega) (by omega) (by rw [e0, pk_un (by omega)]; exact e1) (fun q1 g1 g2 => ?_)
    rw [e0] at g2
    exact hP q1 (k44.tr g1 (fun _ h => h) (fun _ h => h)) g2
theorem k_X11_shares (l : Launch) (D : va_G) (T : Nat → ClassId) (m0 : Nat) (a : Nat → Nat) (p0 : Int32) (r : Nat → Int32) (q : Nat → Nat → Int32) (h : WF (q 0) ∧ gok (q 0) p0 ∧ sg0 (q 0) (iv p0) ∧ bn (q 7 (iv p0)) 1000000000) : RMv l yX11_shares (ws_X11_shares) rm_X11_shares D T m0 a [.ref m0, .int p0] r q (fun u => (kR r u.1 [17, 18, 19, 20, 21, 22, 23] ∧ kQ q u.2 [0] ∧ u.2 0 = shrF (q 0) (iv p0) (iv (q 7 (iv p0))))) := c_X11_shares l D T m0 a p0 r q _ <|
  (by
    obtain ⟨hw, hg, hs, ⟨a, ha, ea⟩⟩ := h
    obtain ⟨g, hg2, hg0, eg, ieg⟩ := hg.n
    obtain ⟨ns, hns, ens⟩ := hw.2.1
    have ins : iv (q 0 1) = ns := by rw [ens]; exact nI_clamp (by omega)
    subst eg
    rw [ieg] at hs ea ⊢
    have iea : iv (q 7 g) = a := by rw [ea]; exact nI_clamp (by omega)
    rw [iea]
    -- the sum of the weights
    have hlow := low_tb' hg2 hg0
    have hln : lowN g < ns := by
      obtain ⟨m, ns', hm, hm10, h0, hlt, e⟩ := hg
      have en : ns' = ns := by rw [ens] at hm; exact ((nI_eq (by omega) (by omega)).mp hm).symm
      have em : m = g := ((nI_eq (by omega) (by have := p2_le hm10; omega)).mp e).symm
      subst em en
      exact low_ns hm10 h0 hlt
    have hb : ∀ t, t < ns → g.testBit t = true → 1 ≤ wsI (q 0) t ∧ wsI (q 0) t ≤ 40005 := fun t ht ht2 => by
      have := ws_bn hw ens hns ht (hs t ht2)
      exact ⟨this.1, this.2.1⟩
    have hW0 : 0 < wSum (q 0) g ns 0 0 := by
      have := (wSum_ge (μ := q 0) (g := g) ns 0 0).2 (lowN g) (Nat.zero_le _) (by omega) hlow
      have h1 := (hb (lowN g) hln hlow).1
      omega
    have hW2 : wSum (q 0) g ns 0 0 < 2 ^ 31 := by
      have := wSum_le (μ := q 0) (g := g) ns 0 0 (fun t _ t2 ht => (hb t (by omega) ht).2)
      omega
    unfold wp_X11_shares
    rw [nz_vp (by omega) (by decide), nI_clamp (n := g) (by omega), ea]
    refine ⟨hg2, fun v2 e2 => ?_⟩
    subst e2
    refine ⟨20, ?_⟩
    have h0 : (0 : Int64) = Int64.ofNat 0 := rfl
    rw [h0]
    refine rl_s12 (y := nI a) hw hg2 ens hns hs ns 0 20 0 r (by omega) (by omega) (fun r1 g1 => ⟨20, ?_⟩)
    refine rl_s61 (μ := q 0) (a := a) hw hg2 ens hns hs ha rfl hW0 hW2 ns 0 20 (nI a) r1 q (by omega) (by omega) eqS.rf hw (fun r2 q2 b1 b2 b3 => ⟨20, ?_⟩)
    obtain ⟨c1, c2, c3⟩ := s2_ok (μ := q 0) (g := g) (a := a) ins hns ha ns 0 (q 0, nI a) (by omega) eqS.rf hw (fun t _ t2 _ => absurd t2 (Nat.not_lt_zero t))
    refine rl_s136 hg2 hns ns 0 20 _ q2 (by omega) (by omega) (by rw [b3]; exact (c1 1 (by decide) (fun s _ => by omega)).trans ens) (fun q3 d1 d2 => ?_)
    refine ⟨g1.tr b1 (fun _ h => h) (fun _ h => h), b2.tr d1 (fun _ h => h) (fun _ h => h), ?_⟩
    (try dsimp only)
    rw [d2, b3]
    unfold shrF
    rw [ins])

end S_RXS
