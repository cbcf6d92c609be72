section S_RFS
abbrev ws_X11_readTest : List Cond := Cond.code yX11_readTest cX11_readTest 6 none :: W0
abbrev rm_X11_readTest : Room := ({ frames := 3, cells := 0, slots := 0, locals := 66 } : Room)
def wp_X11_readTest_123 (P : RST → Prop) (x1 : Int32) (x2 : Int32) (x3 : Int32) (x4 : Int32) (s0 : Int32) (r : Nat → Int32) (q : Nat → Nat → Int32) : Prop := vp_in (r 15) 80 ∧ (∀ q17 : Nat → Nat → Int32, q17 = va_up q 6 (upd (q 6) (Int32.toNatClampNeg (r 15)) ((((((((x1 * 2) + x2) * 5) + x3) * 3) + (if 0 < x4 then x4 else 0)) * 10000) + s0)) → (∀ r18 : Nat → Int32, r18 = va_up r 15 ((r 15) + 1) → (P (r18, q17))))
set_option maxRecDepth 100000 in
set_option maxHeartbeats 4000000 in
theorem t_X11_readTest_123 {p : Program} {l : Launch} {e : Env} {s : State} {m : MethodId} {args : Array Value} {below : List Frame} {meth : Method} {c : Code} {D : va_G} {A : Nat → Prop} {T : Nat → ClassId} {m0 : Nat} {a : Nat → Nat} (C : GC p s m args meth c cX11_readTest "FreightRaterModel" (ws_X11_readTest) 6 D A (zty T)) (hr : meth.sig.returnType = none) (P : RST → Prop) : ∀ (x1 : Int32) (x2 : Int32) (x3 : Int32) (x4 : Int32) (s0 : Int32) (r : Nat → Int32) (q : Nat → Nat → Int32), wp_X11_readTest_123  P x1 x2 x3 x4 s0 r q → GW p l e rm_X11_readTest s m args below meth c D A 6 0 0 (MQ below (va_Qv P (RE D T m0 a A) A) args s 0 0 A) (RW m0 a T r q) 0 0 123 [(0, .ref m0), (1, .int x1), (2, .int x2), (3, .int x3), (4, .int x4)] [.int s0] := by
  have hw : ∀ {w : Cond}, w ∈ W0 → w.before args s = true := fun h => C.2.2.2.2.1 _ (List.mem_cons_of_mem _ h)
  intro x1 x2 x3 x4 s0 r q h
  unfold wp_X11_readTest_123 at h
  refine g_istore (lv' := [(5, .int s0), (0, .ref m0), (1, .int x1), (2, .int x2), (3, .int x3), (4, .int x4)]) C dX11_readTest_123 (by decide) rfl ?_
  refine g_aload_n C dX11_readTest_125 rfl 1 rfl ?_
  refine gr_get C iwx_X11 16 (hw kw_1825) (by decide) rfl rfl dX11_readTest_126 ?_
  refine g_aload_n C dX11_readTest_129 rfl 1 rfl ?_
  refine gr_get C iwx_X11 15 (hw kw_1824) (by decide) rfl rfl dX11_readTest_130 ?_
  refine g_iload_n C dX11_readTest_133 rfl 2 rfl ?_
  refine g_iconst (v := 2) C dX11_readTest_134 (by decide) ?_
  refine g_imul C dX11_readTest_135 ?_
  refine g_iload_n C dX11_readTest_136 rfl 3 rfl ?_
  refine g_iadd C dX11_readTest_137 ?_
  refine g_iconst (v := 5) C dX11_readTest_138 (by decide) ?_
  refine g_imul C dX11_readTest_139 ?_
  refine g_iload_n C dX11_readTest_140 rfl 4 rfl ?_
  refine g_iadd C dX11_readTest_141 ?_
  refine g_iconst (v := 3) C dX11_readTest_142 (by decide) ?_
  refine g_imul C dX11_readTest_143 ?_
  refine g_iconst (v := 0) C dX11_readTest_144 (by decide) ?_
  refine g_iload C dX11_readTest_145 5 rfl ?_
  refine g_mmax C (hw kw_2025) (hw kw_626) (hw kw_18) (hw kw_627) (by decide) (Nat.le_of_ble_eq_true rfl) (Nat.zero_le _) (Nat.zero_le _) dX11_readTest_147 ?_
  refine g_iadd C dX11_readTest_150 ?_
  refine g_sipush (v := 10000) C dX11_readTest_151 (by decide) ?_
  refine g_imul C dX11_readTest_154 ?_
  refine g_iload C dX11_readTest_155 0 rfl ?_
  refine g_iadd C dX11_readTest_157 ?_
  obtain ⟨g16, h⟩ := h
  refine gr_ast_6 C g16 dX11_readTest_158 ?_
  refine gr_nq (fun q17 eq17 => ?_)
  replace h := h q17 eq17
  refine g_aload_n C dX11_readTest_159 rfl 1 rfl ?_
  refine g_dup C dX11_readTest_160 rfl ?_
  refine gr_get C iwx_X11 15 (hw kw_1824) (by decide) rfl rfl dX11_readTest_161 ?_
  refine g_iconst (v := 1) C dX11_readTest_164 (by decide) ?_
  refine g_iadd C dX11_readTest_165 ?_
  refine gr_put_15 C iwx_X11 (hw kw_1824) dX11_readTest_166 ?_
  refine gr_nr (fun r18 er18 => ?_)
  replace h := h r18 er18
  exact gr_vret C hr dX11_readTest_169 h
def wp_X11_readTest_81 (P : RST → Prop) (x1 : Int32) (x2 : Int32) (x3 : Int32) (x4 : Int32) (s0 : Int32) (r : Nat → Int32) (q : Nat → Nat → Int32) : Prop := vz s0 ∧ (∀ r27 : Nat → Int32, r27 = va_up r 11 s0 → (((r27 11) = 0 → (∀ r29 : Nat → Int32, r29 = va_up r27 10 ((r27 10) + 1) → ((¬ x3 = 0 → ((psO r29) ∧ (∀ (v31 : Int32) (r32 : Nat → Int32) (q33 : Nat → Nat → Int32), (v31 = (nbF (q 4) (iv (r29 8)) (pσ r29)).1 ∧ q33 = q ∧ kR r29 r32 [10, 11] ∧ psO r32 ∧ pσ r32 = (nbF (q 4) (iv (r29 8)) (pσ r29)).2) → (wp_X11_readTest_123  P x1 x2 x3 x4 v31 r32 q33)))) ∧ (x3 = 0 → ((psO r29 ∧ dix 0 7) ∧ (∀ (v35 : Int32) (r36 : Nat → Int32) (q37 : Nat → Nat → Int32), (v35 = dgV (q 4) (iv (r29 8)) (pσ r29) 0 7 ∧ q37 = q ∧ kR r29 r36 [10, 11] ∧ psO r36 ∧ pσ r36 = dgS (q 4) (iv (r29 8)) (pσ r29) 0 7) → (wp_X11_readTest_123  P x1 x2 x3 x4 v35 r36 q37))))))) ∧ (¬ (r27 11) = 0 → (∀ r39 : Nat → Int32, r39 = va_up r27 10 ((r27 10) + 0) → ((¬ x3 = 0 → ((psO r39) ∧ (∀ (v41 : Int32) (r42 : Nat → Int32) (q43 : Nat → Nat → Int32), (v41 = (nbF (q 4) (iv (r39 8)) (pσ r39)).1 ∧ q43 = q ∧ kR r39 r42 [10, 11] ∧ psO r42 ∧ pσ r42 = (nbF (q 4) (iv (r39 8)) (pσ r39)).2) → (wp_X11_readTest_123  P x1 x2 x3 x4 v41 r42 q43)))) ∧ (x3 = 0 → ((psO r39 ∧ dix 0 7) ∧ (∀ (v45 : Int32) (r46 : Nat → Int32) (q47 : Nat → Nat → Int32), (v45 = dgV (q 4) (iv (r39 8)) (pσ r39) 0 7 ∧ q47 = q ∧ kR r39 r46 [10, 11] ∧ psO r46 ∧ pσ r46 = dgS (q 4) (iv (r39 8)) (pσ r39) 0 7) → (wp_X11_readTest_123  P x1 x2 x3 x4 v45 r46 q47)))))))))
set_option maxRecDepth 100000 in
set_option maxHeartbeats 4000000 in
theorem t_X11_readTest_81 {p : Program} {l : Launch} {e : Env} {s : State} {m : MethodId} {args : Array Value} {below : List Frame} {meth : Method} {c : Code} {D : va_G} {A : Nat → Prop} {T : Nat → ClassId} {m0 : Nat} {a : Nat → Nat} (C : GC p s m args meth c cX11_readTest "FreightRaterModel" (ws_X11_readTest) 6 D A (zty T)) (hr : meth.sig.returnType = none) (P : RST → Prop) : ∀ (x1 : Int32) (x2 : Int32) (x3 : Int32) (x4 : Int32) (s0 : Int32) (r : Nat → Int32) (q : Nat → Nat → Int32), wp_X11_readTest_81  P x1 x2 x3 x4 s0 r q → GW p l e rm_X11_readTest s m args below meth c D A 6 0 0 (MQ below (va_Qv P (RE D T m0 a A) A) args s 0 0 A) (RW m0 a T r q) 0 0 81 [(0, .ref m0), (1, .int x1), (2, .int x2), (3, .int x3), (4, .int x4)] [.int s0, .ref m0] := by
  have hw : ∀ {w : Cond}, w ∈ W0 → w.before args s = true := fun h => C.2.2.2.2.1 _ (List.mem_cons_of_mem _ h)
  intro x1 x2 x3 x4 s0 r q h
  unfold wp_X11_readTest_81 at h
  obtain ⟨g26, h⟩ := h
  refine gr_put_11 C iwx_X11 g26 (hw kw_1820) dX11_readTest_81 ?_
  refine gr_nr (fun r27 er27 => ?_)
  replace h := h r27 er27
  refine g_aload_n C dX11_readTest_84 rfl 0 rfl ?_
  refine g_dup C dX11_readTest_85 rfl ?_
  refine gr_get C iwx_X11 10 (hw kw_1819) (by decide) rfl rfl dX11_readTest_86 ?_
  refine g_aload_n C dX11_readTest_89 rfl 0 rfl ?_
  refine gr_get C iwx_X11 11 (hw kw_1820) (by decide) rfl rfl dX11_readTest_90 ?_
  refine g_if_eq (tgt := 100) C dX11_readTest_93 (by decide) (fun z28 => ?_) (fun z28 => ?_)
  · replace h := h.1 z28
    refine g_iconst (v := 1) C dX11_readTest_100 (by decide) ?_
    refine g_iadd C dX11_readTest_101 ?_
    refine gr_put_10 C iwx_X11 (hw kw_1819) dX11_readTest_102 ?_
    refine gr_nr (fun r29 er29 => ?_)
    replace h := h r29 er29
    refine g_iload_n C dX11_readTest_105 rfl 3 rfl ?_
    refine g_if_ne (tgt := 119) C dX11_readTest_106 (by decide) (fun z30 => ?_) (fun z30 => ?_)
    · replace h := h.1 z30
      refine g_aload_n C dX11_readTest_119 rfl 0 rfl ?_
      obtain ⟨g34, h⟩ := h
      refine gr_calliV C [] rfl (k_X11_number l D T m0 a  r29 q g34) (w0_V 0 C.2.2.2.2.1 kw_2058 kw_2060 ks_67 kw_9 kw_2061 rfl rfl (by decide +kernel) ⟨by decide, by decide⟩) rfl (Nat.le_of_ble_eq_true rfl) (Nat.zero_le _) (Nat.zero_le _) dX11_readTest_120 (fun v31 r32 q33 hp => ?_)
      replace h := h v31 r32 q33 hp
      refine g_locals [0, 1, 2, 3, 4] rfl ?_
      refine t_X11_readTest_123 C hr  P  x1 x2 x3 x4 v31 r32 q33 h
    · replace h := h.2 z30
      refine g_aload_n C dX11_readTest_109 rfl 0 rfl ?_
      refine g_iconst (v := 0) C dX11_readTest_110 (by decide) ?_
      refine g_bipush (v := 7) C dX11_readTest_111 (by decide) ?_
      obtain ⟨g38, h⟩ := h
      refine gr_calliV C [.int 0, .int 7] rfl (k_X11_digit l D T m0 a 0 7 r29 q g38) (w0_V 2 C.2.2.2.2.1 kw_2046 kw_2048 ks_64 kw_9 kw_2049 rfl rfl (by decide +kernel) ⟨by decide, by decide⟩) rfl (Nat.le_of_ble_eq_true rfl) (Nat.zero_le _) (Nat.zero_le _) dX11_readTest_113 (fun v35 r36 q37 hp => ?_)
      replace h := h v35 r36 q37 hp
      refine g_goto (tgt := 123) C dX11_readTest_116 (by decide) ?_
      refine g_locals [0, 1, 2, 3, 4] rfl ?_
      refine t_X11_readTest_123 C hr  P  x1 x2 x3 x4 v35 r36 q37 h
  · replace h := h.2 z28
    refine g_iconst (v := 0) C dX11_readTest_96 (by decide) ?_
    refine g_goto (tgt := 101) C dX11_readTest_97 (by decide) ?_
    refine g_iadd C dX11_readTest_101 ?_
    refine gr_put_10 C iwx_X11 (hw kw_1819) dX11_readTest_102 ?_
    refine gr_nr (fun r39 er39 => ?_)
    replace h := h r39 er39
    refine g_iload_n C dX11_readTest_105 rfl 3 rfl ?_
    refine g_if_ne (tgt := 119) C dX11_readTest_106 (by decide) (fun z40 => ?_) (fun z40 => ?_)
    · replace h := h.1 z40
      refine g_aload_n C dX11_readTest_119 rfl 0 rfl ?_
      obtain ⟨g44, h⟩ := h
      refine gr_calliV C [] rfl (k_X11_number l D T m0 a  r39 q g44) (w0_V 0 C.2.2.2.2.1 kw_2058 kw_2060 ks_67 kw_9 kw_2061 rfl rfl (by decide +kernel) ⟨by decide, by decide⟩) rfl (Nat.le_of_ble_eq_true rfl) (Nat.zero_le _) (Nat.zero_le _) dX11_readTest_120 (fun v41 r42 q43 hp => ?_)
      replace h := h v41 r42 q43 hp
      refine g_locals [0, 1, 2, 3, 4] rfl ?_
      refine t_X11_readTest_123 C hr  P  x1 x2 x3 x4 v41 r42 q43 h
    · replace h := h.2 z40
      refine g_aload_n C dX11_readTest_109 rfl 0 rfl ?_
      refine g_iconst (v := 0) C dX11_readTest_110 (by decide) ?_
      refine g_bipush (v := 7) C dX11_readTest_111 (by decide) ?_
      obtain ⟨g48, h⟩ := h
      refine gr_calliV C [.int 0, .int 7] rfl (k_X11_digit l D T m0 a 0 7 r39 q g48) (w0_V 2 C.2.2.2.2.1 kw_2046 kw_2048 ks_64 kw_9 kw_2049 rfl rfl (by decide +kernel) ⟨by decide, by decide⟩) rfl (Nat.le_of_ble_eq_true rfl) (Nat.zero_le _) (Nat.zero_le _) dX11_readTest_113 (fun v45 r46 q47 hp => ?_)
      replace h := h v45 r46 q47 hp
      refine g_goto (tgt := 123) C dX11_readTest_116 (by decide) ?_
      refine g_locals [0, 1, 2, 3, 4] rfl ?_
      refine t_X11_readTest_123 C hr  P  x1 x2 x3 x4 v45 r46 q47 h
def wp_X11_readTest_33 (P : RST → Prop) (x1 : Int32) (x2 : Int32) (s0 : Int32) (r : Nat → Int32) (q : Nat → Nat → Int32) : Prop := (0 ≤ s0 → (∀ r9 : Nat → Int32, r9 = va_up r 10 ((r 10) + 1) → ((s0 ≤ 0 → ((¬ s0 = 0 → ((psO r9) ∧ (∀ (v12 : Int32) (r13 : Nat → Int32) (q14 : Nat → Nat → Int32), (v12 = (nbF (q 4) (iv (r9 8)) (pσ r9)).1 ∧ q14 = q ∧ kR r9 r13 [10, 11] ∧ psO r13 ∧ pσ r13 = (nbF (q 4) (iv (r9 8)) (pσ r9)).2) → (wp_X11_readTest_123  P x1 x2 s0 2 v12 r13 q14)))) ∧ (s0 = 0 → ((psO r9 ∧ dix 0 7) ∧ (∀ (v19 : Int32) (r20 : Nat → Int32) (q21 : Nat → Nat → Int32), (v19 = dgV (q 4) (iv (r9 8)) (pσ r9) 0 7 ∧ q21 = q ∧ kR r9 r20 [10, 11] ∧ psO r20 ∧ pσ r20 = dgS (q 4) (iv (r9 8)) (pσ r9) 0 7) → (wp_X11_readTest_123  P x1 x2 s0 2 v19 r20 q21)))))) ∧ (¬ s0 ≤ 0 → ((r9 10 < r9 8 → vp_in (r9 10) 80) ∧ (∀ v24 : Int32, v24 = (compF (sgnF r9 q)) → ((0 ≤ v24 → (wp_X11_readTest_81  P x1 x2 s0 v24 0 r9 q)) ∧ (¬ 0 ≤ v24 → (wp_X11_readTest_81  P x1 x2 s0 v24 1 r9 q))))))))) ∧ (¬ 0 ≤ s0 → (∀ r49 : Nat → Int32, r49 = va_up r 11 1 → (P (r49, q))))
set_option maxRecDepth 100000 in
set_option maxHeartbeats 4000000 in
theorem t_X11_readTest_33 {p : Program} {l : Launch} {e : Env} {s : State} {m : MethodId} {args : Array Value} {below : List Frame} {meth : Method} {c : Code} {D : va_G} {A : Nat → Prop} {T : Nat → ClassId} {m0 : Nat} {a : Nat → Nat} (C : GC p s m args meth c cX11_readTest "FreightRaterModel" (ws_X11_readTest) 6 D A (zty T)) (hr : meth.sig.returnType = none) (P : RST → Prop) : ∀ (x1 : Int32) (x2 : Int32) (s0 : Int32) (r : Nat → Int32) (q : Nat → Nat → Int32), wp_X11_readTest_33  P x1 x2 s0 r q → GW p l e rm_X11_readTest s m args below meth c D A 6 0 0 (MQ below (va_Qv P (RE D T m0 a A) A) args s 0 0 A) (RW m0 a T r q) 0 0 33 [(0, .ref m0), (1, .int x1), (2, .int x2)] [.int s0] := by
  have hw : ∀ {w : Cond}, w ∈ W0 → w.before args s = true := fun h => C.2.2.2.2.1 _ (List.mem_cons_of_mem _ h)
  intro x1 x2 s0 r q h
  unfold wp_X11_readTest_33 at h
  refine g_istore_n (lv' := [(3, .int s0), (0, .ref m0), (1, .int x1), (2, .int x2)]) C dX11_readTest_33 rfl (by decide) rfl ?_
  refine g_iload_n C dX11_readTest_34 rfl 0 rfl ?_
  refine g_if_ge (tgt := 44) C dX11_readTest_35 (by decide) (fun z8 => ?_) (fun z8 => ?_)
  · replace h := h.1 z8
    refine g_aload_n C dX11_readTest_44 rfl 1 rfl ?_
    refine g_dup C dX11_readTest_45 rfl ?_
    refine gr_get C iwx_X11 10 (hw kw_1819) (by decide) rfl rfl dX11_readTest_46 ?_
    refine g_iconst (v := 1) C dX11_readTest_49 (by decide) ?_
    refine g_iadd C dX11_readTest_50 ?_
    refine gr_put_10 C iwx_X11 (hw kw_1819) dX11_readTest_51 ?_
    refine gr_nr (fun r9 er9 => ?_)
    replace h := h r9 er9
    refine g_iconst (v := 2) C dX11_readTest_54 (by decide) ?_
    refine g_istore (lv' := [(4, .int 2), (3, .int s0), (0, .ref m0), (1, .int x1), (2, .int x2)]) C dX11_readTest_55 (by decide) rfl ?_
    refine g_iload_n C dX11_readTest_57 rfl 1 rfl ?_
    refine g_if_le (tgt := 105) C dX11_readTest_58 (by decide) (fun z10 => ?_) (fun z10 => ?_)
    · replace h := h.1 z10
      refine g_iload_n C dX11_readTest_105 rfl 1 rfl ?_
      refine g_if_ne (tgt := 119) C dX11_readTest_106 (by decide) (fun z11 => ?_) (fun z11 => ?_)
      · replace h := h.1 z11
        refine g_aload_n C dX11_readTest_119 rfl 2 rfl ?_
        obtain ⟨g15, h⟩ := h
        refine gr_calliV C [] rfl (k_X11_number l D T m0 a  r9 q g15) (w0_V 0 C.2.2.2.2.1 kw_2058 kw_2060 ks_67 kw_9 kw_2061 rfl rfl (by decide +kernel) ⟨by decide, by decide⟩) rfl (Nat.le_of_ble_eq_true rfl) (Nat.zero_le _) (Nat.zero_le _) dX11_readTest_120 (fun v12 r13 q14 hp => ?_)
        replace h := h v12 r13 q14 hp
        refine g_locals [2, 3, 4, 1, 0] rfl ?_
        refine t_X11_readTest_123 C hr  P  x1 x2 s0 2 v12 r13 q14 h
      · replace h := h.2 z11
        refine g_aload_n C dX11_readTest_109 rfl 2 rfl ?_
        refine g_iconst (v := 0) C dX11_readTest_110 (by decide) ?_
        refine g_bipush (v := 7) C dX11_readTest_111 (by decide) ?_
        obtain ⟨g22, h⟩ := h
        refine gr_calliV C [.int 0, .int 7] rfl (k_X11_digit l D T m0 a 0 7 r9 q g22) (w0_V 2 C.2.2.2.2.1 kw_2046 kw_2048 ks_64 kw_9 kw_2049 rfl rfl (by decide +kernel) ⟨by decide, by decide⟩) rfl (Nat.le_of_ble_eq_true rfl) (Nat.zero_le _) (Nat.zero_le _) dX11_readTest_113 (fun v19 r20 q21 hp => ?_)
        replace h := h v19 r20 q21 hp
        refine g_goto (tgt := 123) C dX11_readTest_116 (by decide) ?_
        refine g_locals [2, 3, 4, 1, 0] rfl ?_
        refine t_X11_readTest_123 C hr  P  x1 x2 s0 2 v19 r20 q21 h
    · replace h := h.2 z10
      refine g_aload_n C dX11_readTest_61 rfl 2 rfl ?_
      obtain ⟨g23, h⟩ := h
      refine gr_callVf C [] rfl (k_X11_sign l D T m0 a  r9 q g23) (w0_V 0 C.2.2.2.2.1 kw_2038 kw_2040 ks_62 kw_9 kw_2041 rfl rfl (by decide +kernel) ⟨by decide, by decide⟩) rfl (Nat.le_of_ble_eq_true rfl) (Nat.zero_le _) (Nat.zero_le _) dX11_readTest_62 ?_
      refine gr_callSf C [.int (sgnF r9 q)] rfl (k_X11_comparison l D T m0 a (sgnF r9 q) r9 q) (w0_S 1 C.2.2.2.2.1 kw_2077 kw_2078 kw_9 kw_2079 rfl rfl (by decide +kernel) ⟨by decide, by decide⟩) rfl (Nat.le_of_ble_eq_true rfl) (Nat.zero_le _) (Nat.zero_le _) dX11_readTest_65 ?_
      refine g_topi (fun v24 ev24 => ?_)
      replace h := h v24 ev24
      refine g_istore (lv' := [(4, .int v24), (3, .int s0), (0, .ref m0), (1, .int x1), (2, .int x2)]) C dX11_readTest_68 (by decide) rfl ?_
      refine g_aload_n C dX11_readTest_70 rfl 2 rfl ?_
      refine g_iload C dX11_readTest_71 0 rfl ?_
      refine g_if_ge (tgt := 80) C dX11_readTest_73 (by decide) (fun z25 => ?_) (fun z25 => ?_)
      · replace h := h.1 z25
        refine g_iconst (v := 0) C dX11_readTest_80 (by decide) ?_
        refine g_locals [2, 3, 4, 1, 0] rfl ?_
        refine t_X11_readTest_81 C hr  P  x1 x2 s0 v24 0 r9 q h
      · replace h := h.2 z25
        refine g_iconst (v := 1) C dX11_readTest_76 (by decide) ?_
        refine g_goto (tgt := 81) C dX11_readTest_77 (by decide) ?_
        refine g_locals [2, 3, 4, 1, 0] rfl ?_
        refine t_X11_readTest_81 C hr  P  x1 x2 s0 v24 1 r9 q h
  · replace h := h.2 z8
    refine g_aload_n C dX11_readTest_38 rfl 1 rfl ?_
    refine g_iconst (v := 1) C dX11_readTest_39 (by decide) ?_
    refine gr_put_11 C iwx_X11 vz1 (hw kw_1820) dX11_readTest_40 ?_
    refine gr_nr (fun r49 er49 => ?_)
    replace h := h r49 er49
    exact gr_vret C hr dX11_readTest_43 h
def wp_X11_readTest (P : RST → Prop) (p0 : Int32) (r : Nat → Int32) (q : Nat → Nat → Int32) : Prop := (psO r ∧ ¬ 45 = (-1 : Int32)) ∧ (∀ (v1 : Int32) (r2 : Nat → Int32) (q3 : Nat → Nat → Int32), (v1 = b2i (tkB (q 4) (iv (r 8)) (pσ r) 45) ∧ q3 = q ∧ kR r r2 [10] ∧ psO r2 ∧ pσ r2 = tkS (q 4) (iv (r 8)) (pσ r) 45) → ((v1 = 0 → (((r2 11) = 0 → ((r2 10 < r2 8 → vp_in (r2 10) 80) ∧ (wp_X11_readTest_33  P p0 0 (kindF (sgnF r2 q3)) r2 q3))) ∧ (¬ (r2 11) = 0 → (wp_X11_readTest_33  P p0 0 (-1) r2 q3)))) ∧ (¬ v1 = 0 → (((r2 11) = 0 → ((r2 10 < r2 8 → vp_in (r2 10) 80) ∧ (wp_X11_readTest_33  P p0 1 (kindF (sgnF r2 q3)) r2 q3))) ∧ (¬ (r2 11) = 0 → (wp_X11_readTest_33  P p0 1 (-1) r2 q3))))))
set_option maxRecDepth 100000 in
set_option maxHeartbeats 4000000 in
theorem t_X11_readTest {p : Program} {l : Launch} {e : Env} {s : State} {m : MethodId} {args : Array Value} {below : List Frame} {meth : Method} {c : Code} {D : va_G} {A : Nat → Prop} {T : Nat → ClassId} {m0 : Nat} {a : Nat → Nat} (C : GC p s m args meth c cX11_readTest "FreightRaterModel" (ws_X11_readTest) 6 D A (zty T)) (hr : meth.sig.returnType = none) (P : RST → Prop) : ∀ (p0 : Int32) (r : Nat → Int32) (q : Nat → Nat → Int32), wp_X11_readTest P p0 r q → GW p l e rm_X11_readTest s m args below meth c D A 6 0 0 (MQ below (va_Qv P (RE D T m0 a A) A) args s 0 0 A) (RW m0 a T r q) 0 0 0 [(0, .ref m0), (1, .int p0)] [] := by
  have hw : ∀ {w : Cond}, w ∈ W0 → w.before args s = true := fun h => C.2.2.2.2.1 _ (List.mem_cons_of_mem _ h)
  intro p0 r q h
  unfold wp_X11_readTest at h
  refine g_aload_n C dX11_readTest_0 rfl 0 rfl ?_
  refine g_bipush (v := 45) C dX11_readTest_1 (by decide) ?_
  obtain ⟨g4, h⟩ := h
  refine gr_calliV C [.int 45] rfl (k_X11_takes l D T m0 a 45 r q g4) (w0_V 1 C.2.2.2.2.1 kw_2054 kw_2056 ks_66 kw_9 kw_2057 rfl rfl (by decide +kernel) ⟨by decide, by decide⟩) rfl (Nat.le_of_ble_eq_true rfl) (Nat.zero_le _) (Nat.zero_le _) dX11_readTest_3 (fun v1 r2 q3 hp => ?_)
  replace h := h v1 r2 q3 hp
  refine g_if_eq (tgt := 13) C dX11_readTest_6 (by decide) (fun z5 => ?_) (fun z5 => ?_)
  · replace h := h.1 z5
    refine g_iconst (v := 0) C dX11_readTest_13 (by decide) ?_
    refine g_istore_n (lv' := [(2, .int 0), (0, .ref m0), (1, .int p0)]) C dX11_readTest_14 rfl (by decide) rfl ?_
    refine g_aload_n C dX11_readTest_15 rfl 1 rfl ?_
    refine gr_get C iwx_X11 11 (hw kw_1820) (by decide) rfl rfl dX11_readTest_16 ?_
    refine g_if_eq (tgt := 26) C dX11_readTest_19 (by decide) (fun z6 => ?_) (fun z6 => ?_)
    · replace h := h.1 z6
      refine g_aload_n C dX11_readTest_26 rfl 1 rfl ?_
      obtain ⟨g7, h⟩ := h
      refine gr_callVf C [] rfl (k_X11_sign l D T m0 a  r2 q3 g7) (w0_V 0 C.2.2.2.2.1 kw_2038 kw_2040 ks_62 kw_9 kw_2041 rfl rfl (by decide +kernel) ⟨by decide, by decide⟩) rfl (Nat.le_of_ble_eq_true rfl) (Nat.zero_le _) (Nat.zero_le _) dX11_readTest_27 ?_
      refine gr_callSf C [.int (sgnF r2 q3)] rfl (k_X11_kindOf l D T m0 a (sgnF r2 q3) r2 q3) (w0_S 1 C.2.2.2.2.1 kw_2074 kw_2075 kw_9 kw_2076 rfl rfl (by decide +kernel) ⟨by decide, by decide⟩) rfl (Nat.le_of_ble_eq_true rfl) (Nat.zero_le _) (Nat.zero_le _) dX11_readTest_30 ?_
      refine g_locals [1, 2, 0] rfl ?_
      refine t_X11_readTest_33 C hr  P  p0 0 (kindF (sgnF r2 q3)) r2 q3 h
    · replace h := h.2 z6
      refine g_iconst (v := -1) C dX11_readTest_22 (by decide) ?_
      refine g_goto (tgt := 33) C dX11_readTest_23 (by decide) ?_
      refine g_locals [1, 2, 0] rfl ?_
      refine t_X11_readTest_33 C hr  P  p0 0 (-1) r2 q3 h
  · replace h := h.2 z5
    refine g_iconst (v := 1) C dX11_readTest_9 (by decide) ?_
    refine g_goto (tgt := 14) C dX11_readTest_10 (by decide) ?_
    refine g_istore_n (lv' := [(2, .int 1), (0, .ref m0), (1, .int p0)]) C dX11_readTest_14 rfl (by decide) rfl ?_
    refine g_aload_n C dX11_readTest_15 rfl 1 rfl ?_
    refine gr_get C iwx_X11 11 (hw kw_1820) (by decide) rfl rfl dX11_readTest_16 ?_
    refine g_if_eq (tgt := 26) C dX11_readTest_19 (by decide) (fun z50 => ?_) (fun z50 => ?_)
    · replace h := h.1 z50
      refine g_aload_n C dX11_readTest_26 rfl 1 rfl ?_
      obtain ⟨g51, h⟩ := h
      refine gr_callVf C [] rfl (k_X11_sign l D T m0 a  r2 q3 g51) (w0_V 0 C.2.2.2.2.1 kw_2038 kw_2040 ks_62 kw_9 kw_2041 rfl rfl (by decide +kernel) ⟨by decide, by decide⟩) rfl (Nat.le_of_ble_eq_true rfl) (Nat.zero_le _) (Nat.zero_le _) dX11_readTest_27 ?_
      refine gr_callSf C [.int (sgnF r2 q3)] rfl (k_X11_kindOf l D T m0 a (sgnF r2 q3) r2 q3) (w0_S 1 C.2.2.2.2.1 kw_2074 kw_2075 kw_9 kw_2076 rfl rfl (by decide +kernel) ⟨by decide, by decide⟩) rfl (Nat.le_of_ble_eq_true rfl) (Nat.zero_le _) (Nat.zero_le _) dX11_readTest_30 ?_
      refine g_locals [1, 2, 0] rfl ?_
      refine t_X11_readTest_33 C hr  P  p0 1 (kindF (sgnF r2 q3)) r2 q3 h
    · replace h := h.2 z50
      refine g_iconst (v := -1) C dX11_readTest_22 (by decide) ?_
      refine g_goto (tgt := 33) C dX11_readTest_23 (by decide) ?_
      refine g_locals [1, 2, 0] rfl ?_
      refine t_X11_readTest_33 C hr  P  p0 1 (-1) r2 q3 h
theorem c_X11_readTest (l : Launch) (D : va_G) (T : Nat → ClassId) (m0 : Nat) (a : Nat → Nat) (p0 : Int32) (r : Nat → Int32) (q : Nat → Nat → Int32) (P : RST → Prop) (h : wp_X11_readTest P p0 r q) : RMv l yX11_readTest (ws_X11_readTest) rm_X11_readTest D T m0 a [.ref m0, .int p0] r q P := gr_metv (by decide) rfl rfl (Nat.le_of_ble_eq_true rfl) (fun p e s m args below meth c A C hr => t_X11_readTest C hr P p0 r q h)
theorem w_rt123 {P : RST → Prop} {r0 r : Nat → Int32} {q : Nat → Nat → Int32} {row kd by_ v : Int32} {mi : Bool} {t : Nat} (hP : ∀ r1 q1, tsP r0 q row r1 q1 → P (r1, q1)) (ht : t < 80) (e15 : r0 15 = nI t) (htl : t < (pσ r0).1) (hle : (pσ r0).1 ≤ iv (r0 8)) (hk : kR r0 r [10, 11]) (hp : psO r) (hσ : pσ r = (tsR (q 4) (iv (r0 8)) (pσ r0)).2) (hE : (pσ r).2 = false → (tsR (q 4) (iv (r0 8)) (pσ r0)).1 = (mi, kd, by_, v)) : wp_X11_readTest_123 P row (b2i mi) kd by_ v r q := by
  have f15 : r 15 = nI t := (hk 15 (by decide)).trans e15
  have e15' : iv (r0 15) = t := by rw [e15]; exact nI_clamp (by omega)
  have hok := tsR_ok (b := q 4) (n := iv (r0 8)) (σ := pσ r0) hle
  unfold wp_X11_readTest_123
  rw [f15]
  simp (disch := omega) only [nz_vp, nI_clamp, nI_1]
  refine ⟨ht, fun q15 e q16 e2 => hP _ _ ?_⟩
  have g8 : q16 8 = r 8 := by rw [e2, va_up_ne _ _ (by decide)]
  have g10 : q16 10 = r 10 := by rw [e2, va_up_ne _ _ (by decide)]
  have g11 : q16 11 = r 11 := by rw [e2, va_up_ne _ _ (by decide)]
  have gσ : pσ q16 = pσ r := by unfold pσ; rw [g10, g11]
  refine ⟨by rw [e2]; exact (hk.mn (by decide)).up (by decide) _, by rw [e]; exact kQ.rf.up (by decide) _, ?_, by rw [gσ]; exact hσ, fun i hi => ?_, fun z => ?_⟩
  · unfold psO
    rw [g8, g10, g11]
    exact hp
  · rw [e15'] at hi
    rw [e, va_up_self, pk_un (by omega)]
  · rw [gσ] at z
    have hE' := hE z
    rw [hσ] at z
    have := hok.2.2 z
    refine ⟨⟨t + 1, ?_, by rw [e2, va_up_self]⟩, by rw [e2, va_up_self, e15'], ?_⟩
    · have h1 : iv (q16 10) = (pσ r).1 := by rw [g10]; rfl
      rw [h1, hσ]; omega
    · rw [e15', e, va_up_self, pk_us, hE']
      rfl
theorem w_rt33 {P : RST → Prop} {r0 r : Nat → Int32} {q : Nat → Nat → Int32} {row : Int32} {t : Nat} (hP : ∀ r1 q1, tsP r0 q row r1 q1 → P (r1, q1)) (h0 : psO r0) (ht : t < 80) (e15 : r0 15 = nI t) (htl : t < (pσ r0).1) (hk : kR r0 r [10, 11]) (hp : psO r) (hσ : pσ r = tkS (q 4) (iv (r0 8)) (pσ r0) 45) (kd : Int32) (hkd : kd = if (pσ r).2 then -1 else kindF (sg (q 4) (iv (r0 8)) (pσ r))) : wp_X11_readTest_33 P row (b2i (tkB (q 4) (iv (r0 8)) (pσ r0) 45)) kd r q := by
  have hle := (ps_1 h0).1
  have e8 : r 8 = r0 8 := hk 8 (by decide)
  have hT : ∀ X, X = tsR (q 4) (iv (r0 8)) (pσ r0) → X = (if 0 ≤ kd then if kd = 0 then ((tkB (q 4) (iv (r0 8)) (pσ r0) 45, kd, 2, dgV (q 4) (iv (r0 8)) ((pσ r).1 + 1, (pσ r).2) 0 7), dgS (q 4) (iv (r0 8)) ((pσ r).1 + 1, (pσ r).2) 0 7) else if 0 ≤ compF (sg (q 4) (iv (r0 8)) ((pσ r).1 + 1, (pσ r).2)) then ((tkB (q 4) (iv (r0 8)) (pσ r0) 45, kd, compF (sg (q 4) (iv (r0 8)) ((pσ r).1 + 1, (pσ r).2)), (nbF (q 4) (iv (r0 8)) ((pσ r).1 + 2, (pσ r).2)).1), (nbF (q 4) (iv (r0 8)) ((pσ r).1 + 2, (pσ r).2)).2) else ((tkB (q 4) (iv (r0 8)) (pσ r0) 45, kd, 0, (nbF (q 4) (iv (r0 8)) ((pσ r).1 + 1, true)).1), (nbF (q 4) (iv (r0 8)) ((pσ r).1 + 1, true)).2) else ((tkB (q 4) (iv (r0 8)) (pσ r0) 45, 0, 0, 0), ((pσ r).1, true))) := by
    intro X hX
    rw [hX]
    unfold tsR
    dsimp only
    rw [← hσ, ← hkd]
  have hT := hT _ rfl
  unfold wp_X11_readTest_33
  refine ⟨fun c r8 e8' => ?_, fun c r42 e42 => ?_⟩
  · rw [if_pos c] at hT
    have hb : (pσ r).2 = false ∧ kd = kindF (sg (q 4) (iv (r0 8)) (pσ r)) := by
      cases hs : (pσ r).2 with
      | true => rw [hs, if_pos rfl] at hkd; rw [hkd] at c; exact absurd c (by decide)
      | false => rw [hs, if_neg (by decide)] at hkd; exact ⟨rfl, hkd⟩
    have hlt : (pσ r).1 < iv (r0 8) := sg_lt (kindF_in (by rw [← hb.2]; exact c))
    obtain ⟨p1, p2, p3⟩ := ps_1 hp
    rw [p3, nI_1] at e8'
    obtain ⟨g1, g2⟩ := psO_10 hp (by rw [e8]; exact hlt) e8'
    have k8 : kR r0 r8 [10, 11] := by rw [e8']; exact hk.up (by decide) _
    have e88 : iv (r8 8) = iv (r0 8) := by rw [k8 8 (by decide)]
    refine ⟨fun c2 => ⟨fun c3 => ?_, fun c3 => ?_⟩, fun c2 => ?_⟩
    · exfalso
      rcases kindF_v (sg (q 4) (iv (r0 8)) (pσ r)) with z | ⟨k, hk4, z⟩
      · rw [hb.2, z] at c; exact absurd c (by decide)
      · rw [hb.2, z] at c2 c3
        rw [nz_le0 (by omega)] at c2
        rw [nz_eq0 (by omega)] at c3
        omega
    · rw [if_pos c3] at hT
      refine ⟨⟨g1, 0, 7, by decide, by decide, rfl, rfl⟩, fun v17 r18 q19 hh => ?_⟩
      obtain ⟨a1, a2, a3, a4, a5⟩ := hh
      subst a2
      rw [g2, e88] at a5 a1
      refine w_rt123 hP ht e15 htl hle (k8.tr a3 (fun _ h => h) (fun _ h => h)) a4 ?_ (fun _ => ?_)
      · rw [hT]; exact a5
      · rw [hT, a1]
    · obtain ⟨s1, s2⟩ := sgn_sg (q := q) g1
      rw [e88, g2] at s1
      have c3 : ¬ kd = 0 := fun z => c2 (by rw [z]; decide)
      rw [if_neg c3] at hT
      refine ⟨s2, fun v21 e21 => ?_⟩
      rw [s1] at e21
      have goon : ∀ (s0 : Int32) (r24 : Nat → Int32), (s0 = 0 ∧ 0 ≤ v21 ∨ s0 = 1 ∧ ¬ 0 ≤ v21) → wp_X11_readTest_81 P row (b2i (tkB (q 4) (iv (r0 8)) (pσ r0) 45)) kd v21 s0 r8 q := by
        intro s0 r24 hs
        unfold wp_X11_readTest_81
        refine ⟨by rcases hs with h | h; rw [h.1]; exact vz0; rw [h.1]; exact vz1, fun r24 e24 => ?_⟩
        have hvz : vz s0 := by rcases hs with h | h; rw [h.1]; exact vz0; rw [h.1]; exact vz1
        obtain ⟨b1, b2⟩ := psO_11 g1 hvz e24
        have k24 : kR r0 r24 [10, 11] := by rw [e24]; exact k8.up (by decide) _
        have e248 : iv (r24 8) = iv (r0 8) := by rw [k24 8 (by decide)]
        have e2411 : r24 11 = s0 := by rw [e24, va_up_self]
        rw [e2411]
        rw [g2] at b2
        dsimp only at b2
        refine ⟨fun c4 r26 e26 => ⟨fun _ => ?_, fun z => absurd z c3⟩, fun c4 r34 e34 => ⟨fun _ => ?_, fun z => absurd z c3⟩⟩
        · have hv : 0 ≤ v21 := by rcases hs with h | h; exact h.2; exact absurd (h.1.symm.trans c4) (by decide)
          have hlt2 : (pσ r).1 + 1 < iv (r0 8) := sg_lt (σ := ((pσ r).1 + 1, (pσ r).2)) (compF_in (by rw [← e21]; exact hv))
          obtain ⟨_, _, p5⟩ := ps_1 b1
          rw [p5, nI_1] at e26
          obtain ⟨d1, d2⟩ := psO_10 b1 (by rw [b2, e248]; exact hlt2) e26
          have k26 : kR r0 r26 [10, 11] := by rw [e26]; exact k24.up (by decide) _
          have e268 : iv (r26 8) = iv (r0 8) := by rw [k26 8 (by decide)]
          rw [← e21, if_pos hv] at hT
          refine ⟨d1, fun v28 r29 q30 hh => ?_⟩
          obtain ⟨a1, a2, a3, a4, a5⟩ := hh
          subst a2
          have dd : pσ r26 = ((pσ r).1 + 2, (pσ r).2) := by rw [d2, b2, c4, hb.1]; rfl
          rw [dd, e268] at a5 a1
          refine w_rt123 hP ht e15 htl hle (k26.tr a3 (fun _ h => h) (fun _ h => h)) a4 ?_ (fun _ => ?_)
          · rw [hT]; exact a5
          · rw [hT, a1]
        · have hv : ¬ 0 ≤ v21 := by rcases hs with h | h; exact absurd h.1 c4; exact h.2
          have hs1 : s0 = 1 := by rcases hs with h | h; exact absurd h.1 c4; exact h.1
          have e34' : r34 = r24 := by rw [e34, Int32.add_zero, vu_id]
          subst e34'
          rw [← e21, if_neg hv] at hT
          refine ⟨b1, fun v28 r29 q30 hh => ?_⟩
          obtain ⟨a1, a2, a3, a4, a5⟩ := hh
          subst a2
          have dd : pσ r34 = ((pσ r).1 + 1, true) := by rw [b2, hs1]; rfl
          rw [dd, e248] at a5 a1
          refine w_rt123 hP ht e15 htl hle (k24.tr a3 (fun _ h => h) (fun _ h => h)) a4 ?_ (fun z => ?_)
          · rw [hT]; exact a5
          · rw [a5, num_bad] at z; cases z
      exact ⟨fun c4 => goon 0 r8 (Or.inl ⟨rfl, c4⟩), fun c4 => goon 1 r8 (Or.inr ⟨rfl, c4⟩)⟩
  · rw [if_neg c] at hT
    obtain ⟨b1, b2⟩ := psO_11 hp vz1 e42
    refine hP _ _ ⟨by rw [e42]; exact (hk.mn (by decide)).up (by decide) _, kQ.rf, b1, by rw [b2, hT]; rfl, fun _ _ => rfl, fun z => by rw [b2] at z; cases z⟩
theorem k_X11_readTest (l : Launch) (D : va_G) (T : Nat → ClassId) (m0 : Nat) (a : Nat → Nat) (p0 : Int32) (r : Nat → Int32) (q : Nat → Nat → Int32) (h : psO r ∧ tsO r) : RMv l yX11_readTest (ws_X11_readTest) rm_X11_readTest D T m0 a [.ref m0, .int p0] r q (fun u => (tsP r q p0 u.1 u.2)) := c_X11_readTest l D T m0 a p0 r q _ <|
  (by
    obtain ⟨hp, t, ht, e15⟩ := h
    obtain ⟨p1, p2, p3⟩ := ps_1 hp
    have e10 : iv (r 10) = (pσ r).1 := rfl
    rw [e10] at ht
    unfold wp_X11_readTest
    refine ⟨⟨hp, by decide⟩, fun v1 r2 q3 hh => ?_⟩
    obtain ⟨a1, a2, a3, a4, a5⟩ := hh
    subst a2
    obtain ⟨s1, s2⟩ := sgn_sg (q := q3) a4
    have k2 : kR r r2 [10, 11] := a3.mn (by decide)
    have e8 : iv (r2 8) = iv (r 8) := by rw [k2 8 (by decide)]
    rw [e8] at s1
    have mb := pb_of (r := r2) a4.2.2
    have main : (((r2 11) = 0 → ((r2 10 < r2 8 → vp_in (r2 10) 80) ∧ (wp_X11_readTest_33 (fun u => tsP r q3 p0 u.1 u.2) p0 v1 (kindF (sgnF r2 q3)) r2 q3))) ∧ (¬ (r2 11) = 0 → (wp_X11_readTest_33 (fun u => tsP r q3 p0 u.1 u.2) p0 v1 (-1) r2 q3))) := by
      rw [a1]
      refine ⟨fun c => ⟨s2, w_rt33 (fun _ _ z => z) hp (by omega) e15 ht k2 a4 a5 _ ?_⟩, fun c => w_rt33 (fun _ _ z => z) hp (by omega) e15 ht k2 a4 a5 _ ?_⟩
      · rw [mb.mp c, if_neg (by decide), s1]
      · have : (pσ r2).2 = true := by
          cases hs : (pσ r2).2 with
          | true => rfl
          | false => exact absurd (mb.mpr hs) c
        rw [this, if_pos rfl]
    refine ⟨fun c => ?_, fun c => ?_⟩
    · rw [c] at main; exact main
    · have : v1 = 1 := by
        rcases (a1 ▸ b2i_vz _ : vz v1) with z | z
        · exact absurd z c
        · exact z
      rw [this] at main; exact main)

end S_RFS
