section S_TODO
def wp_X11_findsPair_172 (K19 : Int32 → Int32 → Int32 → (Nat → Int32) → (Nat → Nat → Int32) → Prop) (P : Int32 → RST → Prop) (x1 : Int32) (x2 : Int32) (x3 : Int32) (x5 : Int32) (s0 : Int32) (r : Nat → Int32) (q : Nat → Nat → Int32) : Prop := (x1 < x5 → (∀ r23 : Nat → Int32, r23 = va_up r 38 x2 → (∀ r24 : Nat → Int32, r24 = va_up r23 39 x3 → (∀ v25 : Int32, v25 = x3 + 1 → (K19 x5 x2 v25 r24 q))))) ∧ (¬ x1 < x5 → ((s0 = 0 → (∀ v27 : Int32, v27 = x3 + 1 → (K19 x1 x2 v27 r q))) ∧ (¬ s0 = 0 → (∀ r28 : Nat → Int32, r28 = va_up r 38 x2 → (∀ r29 : Nat → Int32, r29 = va_up r28 39 x3 → (∀ v30 : Int32, v30 = x3 + 1 → (K19 x5 x2 v30 r29 q)))))))
set_option maxRecDepth 100000 in
set_option maxHeartbeats 4000000 in
theorem t_X11_findsPair_172 {p : Program} {l : Launch} {e : Env} {s : State} {m : MethodId} {args : Array Value} {below : List Frame} {meth : Method} {c : Code} {D : va_G} {A : Nat → Prop} {T : Nat → ClassId} {m0 : Nat} {a : Nat → Nat} (C : GC p s m args meth c cX11_findsPair "FreightRaterModel" (ws_X11_findsPair) 7 D A (zty T)) (hr : meth.sig.returnType = (some .boolean)) (K19 : Int32 → Int32 → Int32 → (Nat → Int32) → (Nat → Nat → Int32) → Prop) (P : Int32 → RST → Prop) (hK19 : ∀ (x1 : Int32) (x2 : Int32) (x3 : Int32) (r : Nat → Int32) (q : Nat → Nat → Int32), K19 x1 x2 x3 r q → GW p l e rm_X11_findsPair s m args below meth c D A 7 0 0 (MQ below (va_Qi P (RE D T m0 a A) A) args s 0 0 A) (RW m0 a T r q) 0 0 19 [(0, .ref m0), (1, .int x1), (2, .int x2), (3, .int x3)] []) : ∀ (x1 : Int32) (x2 : Int32) (x3 : Int32) (x5 : Int32) (s0 : Int32) (r : Nat → Int32) (q : Nat → Nat → Int32), wp_X11_findsPair_172 K19 P x1 x2 x3 x5 s0 r q → GW p l e rm_X11_findsPair s m args below meth c D A 7 0 0 (MQ below (va_Qi P (RE D T m0 a A) A) args s 0 0 A) (RW m0 a T r q) 0 0 172 [(0, .ref m0), (1, .int x1), (2, .int x2), (3, .int x3), (5, .int x5)] [.int s0] := by
  have hw : ∀ {w : Cond}, w ∈ W0 → w.before args s = true := fun h => C.2.2.2.2.1 _ (List.mem_cons_of_mem _ h)
  intro x1 x2 x3 x5 s0 r q h
  unfold wp_X11_findsPair_172 at h
  refine g_istore (lv' := [(6, .int s0), (0, .ref m0), (1, .int x1), (2, .int x2), (3, .int x3), (5, .int x5)]) C dX11_findsPair_172 (by decide) rfl ?_
  refine g_iload C dX11_findsPair_174 5 rfl ?_
  refine g_iload_n C dX11_findsPair_176 rfl 2 rfl ?_
  refine g_icmp_gt (tgt := 185) C dX11_findsPair_177 (by decide) (fun z22 => ?_) (fun z22 => ?_)
  · replace h := h.1 z22
    refine g_iload C dX11_findsPair_185 5 rfl ?_
    refine g_istore_n (lv' := [(1, .int x5), (6, .int s0), (0, .ref m0), (2, .int x2), (3, .int x3), (5, .int x5)]) C dX11_findsPair_187 rfl (by decide) rfl ?_
    refine g_aload_n C dX11_findsPair_188 rfl 2 rfl ?_
    refine g_iload_n C dX11_findsPair_189 rfl 3 rfl ?_
    refine gr_put_38 C iwx_X11 (hw kw_1847) dX11_findsPair_190 ?_
    refine gr_nr (fun r23 er23 => ?_)
    replace h := h r23 er23
    refine g_aload_n C dX11_findsPair_193 rfl 2 rfl ?_
    refine g_iload_n C dX11_findsPair_194 rfl 4 rfl ?_
    refine gr_put_39 C iwx_X11 (hw kw_1848) dX11_findsPair_195 ?_
    refine gr_nr (fun r24 er24 => ?_)
    replace h := h r24 er24
    obtain ⟨v25, ev25⟩ : ∃ y : Int32, y = x3 + 1 := ⟨_, rfl⟩
    replace h := h v25 ev25
    refine g_iinc (v := v25) (lv' := [(3, .int v25), (1, .int x5), (6, .int s0), (0, .ref m0), (2, .int x2), (5, .int x5)]) C dX11_findsPair_198 (j := 4) rfl (by rw [ev25]; rfl) (by decide) rfl ?_
    refine g_goto (tgt := 19) C dX11_findsPair_201 (by decide) ?_
    refine g_locals [3, 1, 4, 0] rfl ?_
    exact hK19 x5 x2 v25 r24 q h
  · replace h := h.2 z22
    refine g_iload C dX11_findsPair_180 0 rfl ?_
    refine g_if_eq (tgt := 198) C dX11_findsPair_182 (by decide) (fun z26 => ?_) (fun z26 => ?_)
    · replace h := h.1 z26
      obtain ⟨v27, ev27⟩ : ∃ y : Int32, y = x3 + 1 := ⟨_, rfl⟩
      replace h := h v27 ev27
      refine g_iinc (v := v27) (lv' := [(3, .int v27), (6, .int s0), (0, .ref m0), (1, .int x1), (2, .int x2), (5, .int x5)]) C dX11_findsPair_198 (j := 4) rfl (by rw [ev27]; rfl) (by decide) rfl ?_
      refine g_goto (tgt := 19) C dX11_findsPair_201 (by decide) ?_
      refine g_locals [2, 3, 4, 0] rfl ?_
      exact hK19 x1 x2 v27 r q h
    · replace h := h.2 z26
      refine g_iload C dX11_findsPair_185 5 rfl ?_
      refine g_istore_n (lv' := [(1, .int x5), (6, .int s0), (0, .ref m0), (2, .int x2), (3, .int x3), (5, .int x5)]) C dX11_findsPair_187 rfl (by decide) rfl ?_
      refine g_aload_n C dX11_findsPair_188 rfl 2 rfl ?_
      refine g_iload_n C dX11_findsPair_189 rfl 3 rfl ?_
      refine gr_put_38 C iwx_X11 (hw kw_1847) dX11_findsPair_190 ?_
      refine gr_nr (fun r28 er28 => ?_)
      replace h := h r28 er28
      refine g_aload_n C dX11_findsPair_193 rfl 2 rfl ?_
      refine g_iload_n C dX11_findsPair_194 rfl 4 rfl ?_
      refine gr_put_39 C iwx_X11 (hw kw_1848) dX11_findsPair_195 ?_
      refine gr_nr (fun r29 er29 => ?_)
      replace h := h r29 er29
      obtain ⟨v30, ev30⟩ : ∃ y : Int32, y = x3 + 1 := ⟨_, rfl⟩
      replace h := h v30 ev30
      refine g_iinc (v := v30) (lv' := [(3, .int v30), (1, .int x5), (6, .int s0), (0, .ref m0), (2, .int x2), (5, .int x5)]) C dX11_findsPair_198 (j := 4) rfl (by rw [ev30]; rfl) (by decide) rfl ?_
      refine g_goto (tgt := 19) C dX11_findsPair_201 (by decide) ?_
      refine g_locals [3, 1, 4, 0] rfl ?_
      exact hK19 x5 x2 v30 r29 q h
def wb_X11_findsPair_19 (rec : Int32 → Int32 → Int32 → (Nat → Int32) → (Nat → Nat → Int32) → Prop) (K204 : Int32 → Int32 → (Nat → Int32) → (Nat → Nat → Int32) → Prop) (P : Int32 → RST → Prop) (x1 : Int32) (x2 : Int32) (x3 : Int32) (r : Nat → Int32) (q : Nat → Nat → Int32) : Prop := ((r 36) ≤ x3 → (K204 x1 x2 r q)) ∧ (¬ (r 36) ≤ x3 → (vp_in x2 10 ∧ (vp_in x3 10 ∧ (∀ v7 : Int32, v7 = ((q 11 (Int32.toNatClampNeg x2)) ||| (q 11 (Int32.toNatClampNeg x3))) → (vp_in x2 10 ∧ (vp_in x3 10 ∧ (((q 11 (Int32.toNatClampNeg x3)) ≤ (q 11 (Int32.toNatClampNeg x2)) → (∀ v11 : Int32, v11 = x3 + 1 → (rec x1 x2 v11 r q))) ∧ (¬ (q 11 (Int32.toNatClampNeg x3)) ≤ (q 11 (Int32.toNatClampNeg x2)) → (vp_in v7 1024 ∧ (((q 7 (Int32.toNatClampNeg v7)) < 0 → (∀ v14 : Int32, v14 = x3 + 1 → (rec x1 x2 v14 r q))) ∧ (¬ (q 7 (Int32.toNatClampNeg v7)) < 0 → (vp_in x2 10 ∧ (vp_in (q 11 (Int32.toNatClampNeg x2)) 1024 ∧ (vp_in x3 10 ∧ (vp_in (q 11 (Int32.toNatClampNeg x3)) 1024 ∧ (vp_in v7 1024 ∧ (∀ v20 : Int32, v20 = (((q 7 (Int32.toNatClampNeg (q 11 (Int32.toNatClampNeg x2)))) + (q 7 (Int32.toNatClampNeg (q 11 (Int32.toNatClampNeg x3))))) - (q 7 (Int32.toNatClampNeg v7))) → (((r 38) < 0 → (wp_X11_findsPair_172 (fun (y31 : Int32) (y32 : Int32) (y33 : Int32) (r34 : Nat → Int32) (q35 : Nat → Nat → Int32) => rec y31 y32 y33 r34 q35) P x1 x2 x3 v20 0 r q)) ∧ (¬ (r 38) < 0 → ((¬ v20 = x1 → (wp_X11_findsPair_172 (fun (y37 : Int32) (y38 : Int32) (y39 : Int32) (r40 : Nat → Int32) (q41 : Nat → Nat → Int32) => rec y37 y38 y39 r40 q41) P x1 x2 x3 v20 0 r q)) ∧ (v20 = x1 → (vp_in x2 10 ∧ (vp_in (r 38) 10 ∧ (((q 11 (Int32.toNatClampNeg x2)) < (q 11 (Int32.toNatClampNeg (r 38))) → (wp_X11_findsPair_172 (fun (y45 : Int32) (y46 : Int32) (y47 : Int32) (r48 : Nat → Int32) (q49 : Nat → Nat → Int32) => rec y45 y46 y47 r48 q49) P x1 x2 x3 v20 1 r q)) ∧ (¬ (q 11 (Int32.toNatClampNeg x2)) < (q 11 (Int32.toNatClampNeg (r 38))) → (vp_in x2 10 ∧ (vp_in (r 38) 10 ∧ ((¬ (q 11 (Int32.toNatClampNeg x2)) = (q 11 (Int32.toNatClampNeg (r 38))) → (wp_X11_findsPair_172 (fun (y53 : Int32) (y54 : Int32) (y55 : Int32) (r56 : Nat → Int32) (q57 : Nat → Nat → Int32) => rec y53 y54 y55 r56 q57) P x1 x2 x3 v20 0 r q)) ∧ ((q 11 (Int32.toNatClampNeg x2)) = (q 11 (Int32.toNatClampNeg (r 38))) → (vp_in x3 10 ∧ (vp_in (r 39) 10 ∧ (((q 11 (Int32.toNatClampNeg (r 39))) ≤ (q 11 (Int32.toNatClampNeg x3)) → (wp_X11_findsPair_172 (fun (y61 : Int32) (y62 : Int32) (y63 : Int32) (r64 : Nat → Int32) (q65 : Nat → Nat → Int32) => rec y61 y62 y63 r64 q65) P x1 x2 x3 v20 0 r q)) ∧ (¬ (q 11 (Int32.toNatClampNeg (r 39))) ≤ (q 11 (Int32.toNatClampNeg x3)) → (wp_X11_findsPair_172 (fun (y66 : Int32) (y67 : Int32) (y68 : Int32) (r69 : Nat → Int32) (q70 : Nat → Nat → Int32) => rec y66 y67 y68 r69 q70) P x1 x2 x3 v20 1 r q))))))))))))))))))))))))))))))))))
def wp_X11_findsPair_19 (K204 : Int32 → Int32 → (Nat → Int32) → (Nat → Nat → Int32) → Prop) (P : Int32 → RST → Prop) : Nat → Int32 → Int32 → Int32 → (Nat → Int32) → (Nat → Nat → Int32) → Prop
  | 0 => fun _ _ _ _ _ => False
  | n + 1 => fun x1 x2 x3 r q => wb_X11_findsPair_19 (wp_X11_findsPair_19 K204 P n) K204 P x1 x2 x3 r q
set_option maxRecDepth 100000 in
set_option maxHeartbeats 4000000 in
theorem t_X11_findsPair_19 {p : Program} {l : Launch} {e : Env} {s : State} {m : MethodId} {args : Array Value} {below : List Frame} {meth : Method} {c : Code} {D : va_G} {A : Nat → Prop} {T : Nat → ClassId} {m0 : Nat} {a : Nat → Nat} (C : GC p s m args meth c cX11_findsPair "FreightRaterModel" (ws_X11_findsPair) 7 D A (zty T)) (hr : meth.sig.returnType = (some .boolean)) (K204 : Int32 → Int32 → (Nat → Int32) → (Nat → Nat → Int32) → Prop) (P : Int32 → RST → Prop) (hK204 : ∀ (x1 : Int32) (x2 : Int32) (r : Nat → Int32) (q : Nat → Nat → Int32), K204 x1 x2 r q → GW p l e rm_X11_findsPair s m args below meth c D A 7 0 0 (MQ below (va_Qi P (RE D T m0 a A) A) args s 0 0 A) (RW m0 a T r q) 0 0 204 [(0, .ref m0), (1, .int x1), (2, .int x2)] []) : ∀ (n : Nat) (x1 : Int32) (x2 : Int32) (x3 : Int32) (r : Nat → Int32) (q : Nat → Nat → Int32), wp_X11_findsPair_19 K204 P n x1 x2 x3 r q → GW p l e rm_X11_findsPair s m args below meth c D A 7 0 0 (MQ below (va_Qi P (RE D T m0 a A) A) args s 0 0 A) (RW m0 a T r q) 0 0 19 [(0, .ref m0), (1, .int x1), (2, .int x2), (3, .int x3)] [] := by
  have hw : ∀ {w : Cond}, w ∈ W0 → w.before args s = true := fun h => C.2.2.2.2.1 _ (List.mem_cons_of_mem _ h)
  intro n
  induction n with
  | zero => intro x1 x2 x3 r q h; exact h.elim
  | succ n ih =>
    intro x1 x2 x3 r q h
    replace h : wb_X11_findsPair_19 (wp_X11_findsPair_19 K204 P n) K204 P x1 x2 x3 r q := h
    unfold wb_X11_findsPair_19 at h
    refine g_iload_n C dX11_findsPair_19 rfl 3 rfl ?_
    refine g_aload_n C dX11_findsPair_20 rfl 0 rfl ?_
    refine gr_get C iwx_X11 36 (hw kw_1845) (by decide) rfl rfl dX11_findsPair_21 ?_
    refine g_icmp_ge (tgt := 204) C dX11_findsPair_24 (by decide) (fun z4 => ?_) (fun z4 => ?_)
    · replace h := h.1 z4
      refine g_locals [0, 1, 2] rfl ?_
      exact hK204 x1 x2 r q h
    · replace h := h.2 z4
      refine g_aload_n C dX11_findsPair_27 rfl 0 rfl ?_
      refine gr_get C iwx_X11 37 (hw kw_1846) (by decide) rfl rfl dX11_findsPair_28 ?_
      refine g_iload_n C dX11_findsPair_31 rfl 2 rfl ?_
      obtain ⟨g5, h⟩ := h
      refine gr_ald_11 C g5 dX11_findsPair_32 ?_
      refine g_aload_n C dX11_findsPair_33 rfl 0 rfl ?_
      refine gr_get C iwx_X11 37 (hw kw_1846) (by decide) rfl rfl dX11_findsPair_34 ?_
      refine g_iload_n C dX11_findsPair_37 rfl 3 rfl ?_
      obtain ⟨g6, h⟩ := h
      refine gr_ald_11 C g6 dX11_findsPair_38 ?_
      refine g_ior C dX11_findsPair_39 ?_
      refine g_topi (fun v7 ev7 => ?_)
      replace h := h v7 ev7
      refine g_istore (lv' := [(4, .int v7), (0, .ref m0), (1, .int x1), (2, .int x2), (3, .int x3)]) C dX11_findsPair_40 (by decide) rfl ?_
      refine g_aload_n C dX11_findsPair_42 rfl 1 rfl ?_
      refine gr_get C iwx_X11 37 (hw kw_1846) (by decide) rfl rfl dX11_findsPair_43 ?_
      refine g_iload_n C dX11_findsPair_46 rfl 3 rfl ?_
      obtain ⟨g8, h⟩ := h
      refine gr_ald_11 C g8 dX11_findsPair_47 ?_
      refine g_aload_n C dX11_findsPair_48 rfl 1 rfl ?_
      refine gr_get C iwx_X11 37 (hw kw_1846) (by decide) rfl rfl dX11_findsPair_49 ?_
      refine g_iload_n C dX11_findsPair_52 rfl 4 rfl ?_
      obtain ⟨g9, h⟩ := h
      refine gr_ald_11 C g9 dX11_findsPair_53 ?_
      refine g_icmp_ge (tgt := 198) C dX11_findsPair_54 (by decide) (fun z10 => ?_) (fun z10 => ?_)
      · replace h := h.1 z10
        obtain ⟨v11, ev11⟩ : ∃ y : Int32, y = x3 + 1 := ⟨_, rfl⟩
        replace h := h v11 ev11
        refine g_iinc (v := v11) (lv' := [(3, .int v11), (4, .int v7), (0, .ref m0), (1, .int x1), (2, .int x2)]) C dX11_findsPair_198 (j := 4) rfl (by rw [ev11]; rfl) (by decide) rfl ?_
        refine g_goto (tgt := 19) C dX11_findsPair_201 (by decide) ?_
        refine g_locals [2, 3, 4, 0] rfl ?_
        exact ih x1 x2 v11 r q h
      · replace h := h.2 z10
        refine g_aload_n C dX11_findsPair_57 rfl 1 rfl ?_
        refine gr_get C iwx_X11 31 (hw kw_1840) (by decide) rfl rfl dX11_findsPair_58 ?_
        refine g_iload C dX11_findsPair_61 0 rfl ?_
        obtain ⟨g12, h⟩ := h
        refine gr_ald_7 C g12 dX11_findsPair_63 ?_
        refine g_if_lt (tgt := 198) C dX11_findsPair_64 (by decide) (fun z13 => ?_) (fun z13 => ?_)
        · replace h := h.1 z13
          obtain ⟨v14, ev14⟩ : ∃ y : Int32, y = x3 + 1 := ⟨_, rfl⟩
          replace h := h v14 ev14
          refine g_iinc (v := v14) (lv' := [(3, .int v14), (4, .int v7), (0, .ref m0), (1, .int x1), (2, .int x2)]) C dX11_findsPair_198 (j := 4) rfl (by rw [ev14]; rfl) (by decide) rfl ?_
          refine g_goto (tgt := 19) C dX11_findsPair_201 (by decide) ?_
          refine g_locals [2, 3, 4, 0] rfl ?_
          exact ih x1 x2 v14 r q h
        · replace h := h.2 z13
          refine g_aload_n C dX11_findsPair_67 rfl 1 rfl ?_
          refine gr_get C iwx_X11 31 (hw kw_1840) (by decide) rfl rfl dX11_findsPair_68 ?_
          refine g_aload_n C dX11_findsPair_71 rfl 1 rfl ?_
          refine gr_get C iwx_X11 37 (hw kw_1846) (by decide) rfl rfl dX11_findsPair_72 ?_
          refine g_iload_n C dX11_findsPair_75 rfl 3 rfl ?_
          obtain ⟨g15, h⟩ := h
          refine gr_ald_11 C g15 dX11_findsPair_76 ?_
          obtain ⟨g16, h⟩ := h
          refine gr_ald_7 C g16 dX11_findsPair_77 ?_
          refine g_aload_n C dX11_findsPair_78 rfl 1 rfl ?_
          refine gr_get C iwx_X11 31 (hw kw_1840) (by decide) rfl rfl dX11_findsPair_79 ?_
          refine g_aload_n C dX11_findsPair_82 rfl 1 rfl ?_
          refine gr_get C iwx_X11 37 (hw kw_1846) (by decide) rfl rfl dX11_findsPair_83 ?_
          refine g_iload_n C dX11_findsPair_86 rfl 4 rfl ?_
          obtain ⟨g17, h⟩ := h
          refine gr_ald_11 C g17 dX11_findsPair_87 ?_
          obtain ⟨g18, h⟩ := h
          refine gr_ald_7 C g18 dX11_findsPair_88 ?_
          refine g_iadd C dX11_findsPair_89 ?_
          refine g_aload_n C dX11_findsPair_90 rfl 1 rfl ?_
          refine gr_get C iwx_X11 31 (hw kw_1840) (by decide) rfl rfl dX11_findsPair_91 ?_
          refine g_iload C dX11_findsPair_94 0 rfl ?_
          obtain ⟨g19, h⟩ := h
          refine gr_ald_7 C g19 dX11_findsPair_96 ?_
          refine g_isub C dX11_findsPair_97 ?_
          refine g_topi (fun v20 ev20 => ?_)
          replace h := h v20 ev20
          refine g_istore (lv' := [(5, .int v20), (4, .int v7), (0, .ref m0), (1, .int x1), (2, .int x2), (3, .int x3)]) C dX11_findsPair_98 (by decide) rfl ?_
          refine g_aload_n C dX11_findsPair_100 rfl 2 rfl ?_
          refine gr_get C iwx_X11 38 (hw kw_1847) (by decide) rfl rfl dX11_findsPair_101 ?_
          refine g_if_lt (tgt := 171) C dX11_findsPair_104 (by decide) (fun z21 => ?_) (fun z21 => ?_)
          · replace h := h.1 z21
            refine g_iconst (v := 0) C dX11_findsPair_171 (by decide) ?_
            refine g_locals [2, 3, 4, 5, 0] rfl ?_
            refine t_X11_findsPair_172 C hr _ P ?_ x1 x2 x3 v20 0 r q h
            · intro y31 y32 y33 r34 q35 h
              refine g_locals [0, 1, 2, 3] rfl ?_
              exact ih y31 y32 y33 r34 q35 h
          · replace h := h.2 z21
            refine g_iload C dX11_findsPair_107 0 rfl ?_
            refine g_iload_n C dX11_findsPair_109 rfl 3 rfl ?_
            refine g_icmp_ne (tgt := 171) C dX11_findsPair_110 (by decide) (fun z36 => ?_) (fun z36 => ?_)
            · replace h := h.1 z36
              refine g_iconst (v := 0) C dX11_findsPair_171 (by decide) ?_
              refine g_locals [2, 3, 4, 5, 0] rfl ?_
              refine t_X11_findsPair_172 C hr _ P ?_ x1 x2 x3 v20 0 r q h
              · intro y37 y38 y39 r40 q41 h
                refine g_locals [0, 1, 2, 3] rfl ?_
                exact ih y37 y38 y39 r40 q41 h
            · replace h := h.2 z36
              refine g_aload_n C dX11_findsPair_113 rfl 2 rfl ?_
              refine gr_get C iwx_X11 37 (hw kw_1846) (by decide) rfl rfl dX11_findsPair_114 ?_
              refine g_iload_n C dX11_findsPair_117 rfl 4 rfl ?_
              obtain ⟨g42, h⟩ := h
              refine gr_ald_11 C g42 dX11_findsPair_118 ?_
              refine g_aload_n C dX11_findsPair_119 rfl 2 rfl ?_
              refine gr_get C iwx_X11 37 (hw kw_1846) (by decide) rfl rfl dX11_findsPair_120 ?_
              refine g_aload_n C dX11_findsPair_123 rfl 2 rfl ?_
              refine gr_get C iwx_X11 38 (hw kw_1847) (by decide) rfl rfl dX11_findsPair_124 ?_
              obtain ⟨g43, h⟩ := h
              refine gr_ald_11 C g43 dX11_findsPair_127 ?_
              refine g_icmp_lt (tgt := 167) C dX11_findsPair_128 (by decide) (fun z44 => ?_) (fun z44 => ?_)
              · replace h := h.1 z44
                refine g_iconst (v := 1) C dX11_findsPair_167 (by decide) ?_
                refine g_goto (tgt := 172) C dX11_findsPair_168 (by decide) ?_
                refine g_locals [2, 3, 4, 5, 0] rfl ?_
                refine t_X11_findsPair_172 C hr _ P ?_ x1 x2 x3 v20 1 r q h
                · intro y45 y46 y47 r48 q49 h
                  refine g_locals [0, 1, 2, 3] rfl ?_
                  exact ih y45 y46 y47 r48 q49 h
              · replace h := h.2 z44
                refine g_aload_n C dX11_findsPair_131 rfl 2 rfl ?_
                refine gr_get C iwx_X11 37 (hw kw_1846) (by decide) rfl rfl dX11_findsPair_132 ?_
                refine g_iload_n C dX11_findsPair_135 rfl 4 rfl ?_
                obtain ⟨g50, h⟩ := h
                refine gr_ald_11 C g50 dX11_findsPair_136 ?_
                refine g_aload_n C dX11_findsPair_137 rfl 2 rfl ?_
                refine gr_get C iwx_X11 37 (hw kw_1846) (by decide) rfl rfl dX11_findsPair_138 ?_
                refine g_aload_n C dX11_findsPair_141 rfl 2 rfl ?_
                refine gr_get C iwx_X11 38 (hw kw_1847) (by decide) rfl rfl dX11_findsPair_142 ?_
                obtain ⟨g51, h⟩ := h
                refine gr_ald_11 C g51 dX11_findsPair_145 ?_
                refine g_icmp_ne (tgt := 171) C dX11_findsPair_146 (by decide) (fun z52 => ?_) (fun z52 => ?_)
                · replace h := h.1 z52
                  refine g_iconst (v := 0) C dX11_findsPair_171 (by decide) ?_
                  refine g_locals [2, 3, 4, 5, 0] rfl ?_
                  refine t_X11_findsPair_172 C hr _ P ?_ x1 x2 x3 v20 0 r q h
                  · intro y53 y54 y55 r56 q57 h
                    refine g_locals [0, 1, 2, 3] rfl ?_
                    exact ih y53 y54 y55 r56 q57 h
                · replace h := h.2 z52
                  refine g_aload_n C dX11_findsPair_149 rfl 2 rfl ?_
                  refine gr_get C iwx_X11 37 (hw kw_1846) (by decide) rfl rfl dX11_findsPair_150 ?_
                  refine g_iload_n C dX11_findsPair_153 rfl 5 rfl ?_
                  obtain ⟨g58, h⟩ := h
                  refine gr_ald_11 C g58 dX11_findsPair_154 ?_
                  refine g_aload_n C dX11_findsPair_155 rfl 2 rfl ?_
                  refine gr_get C iwx_X11 37 (hw kw_1846) (by decide) rfl rfl dX11_findsPair_156 ?_
                  refine g_aload_n C dX11_findsPair_159 rfl 2 rfl ?_
                  refine gr_get C iwx_X11 39 (hw kw_1848) (by decide) rfl rfl dX11_findsPair_160 ?_
                  obtain ⟨g59, h⟩ := h
                  refine gr_ald_11 C g59 dX11_findsPair_163 ?_
                  refine g_icmp_ge (tgt := 171) C dX11_findsPair_164 (by decide) (fun z60 => ?_) (fun z60 => ?_)
                  · replace h := h.1 z60
                    refine g_iconst (v := 0) C dX11_findsPair_171 (by decide) ?_
                    refine g_locals [2, 3, 4, 5, 0] rfl ?_
                    refine t_X11_findsPair_172 C hr _ P ?_ x1 x2 x3 v20 0 r q h
                    · intro y61 y62 y63 r64 q65 h
                      refine g_locals [0, 1, 2, 3] rfl ?_
                      exact ih y61 y62 y63 r64 q65 h
                  · replace h := h.2 z60
                    refine g_iconst (v := 1) C dX11_findsPair_167 (by decide) ?_
                    refine g_goto (tgt := 172) C dX11_findsPair_168 (by decide) ?_
                    refine g_locals [2, 3, 4, 5, 0] rfl ?_
                    refine t_X11_findsPair_172 C hr _ P ?_ x1 x2 x3 v20 1 r q h
                    · intro y66 y67 y68 r69 q70 h
                      refine g_locals [0, 1, 2, 3] rfl ?_
                      exact ih y66 y67 y68 r69 q70 h
def wb_X11_findsPair_9 (rec : Int32 → Int32 → (Nat → Int32) → (Nat → Nat → Int32) → Prop) (P : Int32 → RST → Prop) (x1 : Int32) (x2 : Int32) (r : Nat → Int32) (q : Nat → Nat → Int32) : Prop := ((r 36) ≤ x2 → (((r 38) < 0 → (P 0 (r, q))) ∧ (¬ (r 38) < 0 → (P 1 (r, q))))) ∧ (¬ (r 36) ≤ x2 → (∃ k76 : Nat, wp_X11_findsPair_19 (fun (y71 : Int32) (y72 : Int32) (r73 : Nat → Int32) (q74 : Nat → Nat → Int32) => ∀ v75 : Int32, v75 = y72 + 1 → (rec y71 v75 r73 q74)) P k76 x1 x2 0 r q))
def wp_X11_findsPair_9 (P : Int32 → RST → Prop) : Nat → Int32 → Int32 → (Nat → Int32) → (Nat → Nat → Int32) → Prop
  | 0 => fun _ _ _ _ => False
  | n + 1 => fun x1 x2 r q => wb_X11_findsPair_9 (wp_X11_findsPair_9  P n)  P x1 x2 r q
set_option maxRecDepth 100000 in
set_option maxHeartbeats 4000000 in
theorem t_X11_findsPair_9 {p : Program} {l : Launch} {e : Env} {s : State} {m : MethodId} {args : Array Value} {below : List Frame} {meth : Method} {c : Code} {D : va_G} {A : Nat → Prop} {T : Nat → ClassId} {m0 : Nat} {a : Nat → Nat} (C : GC p s m args meth c cX11_findsPair "FreightRaterModel" (ws_X11_findsPair) 7 D A (zty T)) (hr : meth.sig.returnType = (some .boolean)) (P : Int32 → RST → Prop) : ∀ (n : Nat) (x1 : Int32) (x2 : Int32) (r : Nat → Int32) (q : Nat → Nat → Int32), wp_X11_findsPair_9  P n x1 x2 r q → GW p l e rm_X11_findsPair s m args below meth c D A 7 0 0 (MQ below (va_Qi P (RE D T m0 a A) A) args s 0 0 A) (RW m0 a T r q) 0 0 9 [(0, .ref m0), (1, .int x1), (2, .int x2)] [] := by
  have hw : ∀ {w : Cond}, w ∈ W0 → w.before args s = true := fun h => C.2.2.2.2.1 _ (List.mem_cons_of_mem _ h)
  intro n
  induction n with
  | zero => intro x1 x2 r q h; exact h.elim
  | succ n ih =>
    intro x1 x2 r q h
    replace h : wb_X11_findsPair_9 (wp_X11_findsPair_9  P n)  P x1 x2 r q := h
    unfold wb_X11_findsPair_9 at h
    refine g_iload_n C dX11_findsPair_9 rfl 2 rfl ?_
    refine g_aload_n C dX11_findsPair_10 rfl 0 rfl ?_
    refine gr_get C iwx_X11 36 (hw kw_1845) (by decide) rfl rfl dX11_findsPair_11 ?_
    refine g_icmp_ge (tgt := 210) C dX11_findsPair_14 (by decide) (fun z2 => ?_) (fun z2 => ?_)
    · replace h := h.1 z2
      refine g_aload_n C dX11_findsPair_210 rfl 0 rfl ?_
      refine gr_get C iwx_X11 38 (hw kw_1847) (by decide) rfl rfl dX11_findsPair_211 ?_
      refine g_if_lt (tgt := 221) C dX11_findsPair_214 (by decide) (fun z3 => ?_) (fun z3 => ?_)
      · replace h := h.1 z3
        refine g_iconst (v := 0) C dX11_findsPair_221 (by decide) ?_
        exact gr_zret C hr vz0 dX11_findsPair_222 h
      · replace h := h.2 z3
        refine g_iconst (v := 1) C dX11_findsPair_217 (by decide) ?_
        refine g_goto (tgt := 222) C dX11_findsPair_218 (by decide) ?_
        exact gr_zret C hr vz1 dX11_findsPair_222 h
    · replace h := h.2 z2
      refine g_iconst (v := 0) C dX11_findsPair_17 (by decide) ?_
      refine g_istore_n (lv' := [(3, .int 0), (0, .ref m0), (1, .int x1), (2, .int x2)]) C dX11_findsPair_18 rfl (by decide) rfl ?_
      refine g_locals [1, 2, 3, 0] rfl ?_
      obtain ⟨k76, h⟩ := h
      refine t_X11_findsPair_19 C hr _ P ?_ k76 x1 x2 0 r q h
      · intro y71 y72 r73 q74 h
        obtain ⟨v75, ev75⟩ : ∃ y : Int32, y = y72 + 1 := ⟨_, rfl⟩
        replace h := h v75 ev75
        refine g_iinc (v := v75) (lv' := [(2, .int v75), (0, .ref m0), (1, .int y71)]) C dX11_findsPair_204 (j := 2) rfl (by rw [ev75]; rfl) (by decide) rfl ?_
        refine g_goto (tgt := 9) C dX11_findsPair_207 (by decide) ?_
        refine g_locals [1, 2, 0] rfl ?_
        exact ih y71 v75 r73 q74 h
def wp_X11_findsPair (P : Int32 → RST → Prop)  (r : Nat → Int32) (q : Nat → Nat → Int32) : Prop := ∀ r1 : Nat → Int32, r1 = va_up r 38 (-1) → (∃ k77 : Nat, wp_X11_findsPair_9  P k77 0 0 r1 q)
set_option maxRecDepth 100000 in
set_option maxHeartbeats 4000000 in
theorem t_X11_findsPair {p : Program} {l : Launch} {e : Env} {s : State} {m : MethodId} {args : Array Value} {below : List Frame} {meth : Method} {c : Code} {D : va_G} {A : Nat → Prop} {T : Nat → ClassId} {m0 : Nat} {a : Nat → Nat} (C : GC p s m args meth c cX11_findsPair "FreightRaterModel" (ws_X11_findsPair) 7 D A (zty T)) (hr : meth.sig.returnType = (some .boolean)) (P : Int32 → RST → Prop) : ∀  (r : Nat → Int32) (q : Nat → Nat → Int32), wp_X11_findsPair P  r q → GW p l e rm_X11_findsPair s m args below meth c D A 7 0 0 (MQ below (va_Qi P (RE D T m0 a A) A) args s 0 0 A) (RW m0 a T r q) 0 0 0 [(0, .ref m0)] [] := by
  have hw : ∀ {w : Cond}, w ∈ W0 → w.before args s = true := fun h => C.2.2.2.2.1 _ (List.mem_cons_of_mem _ h)
  intro  r q h
  unfold wp_X11_findsPair at h
  refine g_iconst (v := 0) C dX11_findsPair_0 (by decide) ?_
  refine g_istore_n (lv' := [(1, .int 0), (0, .ref m0)]) C dX11_findsPair_1 rfl (by decide) rfl ?_
  refine g_aload_n C dX11_findsPair_2 rfl 1 rfl ?_
  refine g_iconst (v := -1) C dX11_findsPair_3 (by decide) ?_
  refine gr_put_38 C iwx_X11 (hw kw_1847) dX11_findsPair_4 ?_
  refine gr_nr (fun r1 er1 => ?_)
  replace h := h r1 er1
  refine g_iconst (v := 0) C dX11_findsPair_7 (by decide) ?_
  refine g_istore_n (lv' := [(2, .int 0), (1, .int 0), (0, .ref m0)]) C dX11_findsPair_8 rfl (by decide) rfl ?_
  refine g_locals [2, 1, 0] rfl ?_
  obtain ⟨k77, h⟩ := h
  refine t_X11_findsPair_9 C hr  P  k77 0 0 r1 q h
theorem c_X11_findsPair (l : Launch) (D : va_G) (T : Nat → ClassId) (m0 : Nat) (a : Nat → Nat)  (r : Nat → Int32) (q : Nat → Nat → Int32) (P : Int32 → RST → Prop) (h : wp_X11_findsPair P  r q) : RMi l yX11_findsPair (ws_X11_findsPair) rm_X11_findsPair D T m0 a [.ref m0] r q P := gr_meti (by decide) rfl rfl (Nat.le_of_ble_eq_true rfl) (fun p e s m args below meth c A C hr => t_X11_findsPair C hr P  r q h)
def wb_X11_shares_12 (rec : Int32 → Int32 → Int64 → Int32 → (Nat → Int32) → (Nat → Nat → Int32) → Prop) (K55 : Int32 → Int32 → Int64 → (Nat → Int32) → (Nat → Nat → Int32) → Prop) (P : RST → Prop) (x1 : Int32) (x2 : Int32) (x3 : Int64) (x5 : Int32) (r : Nat → Int32) (q : Nat → Nat → Int32) : Prop := vp_in 1 3334 ∧ (((q 0 (Int32.toNatClampNeg 1)) ≤ x5 → (K55 x1 x2 x3 r q)) ∧ (¬ (q 0 (Int32.toNatClampNeg 1)) ≤ x5 → (((hasF x1 x5) = 0 → (∀ v6 : Int32, v6 = x5 + 1 → (rec x1 x2 x3 v6 r q))) ∧ (¬ (hasF x1 x5) = 0 → ((WF (q 0) ∧ gok (q 0) (1 <<< (x5 &&& 31))) ∧ (∀ (v7 : Int32) (r8 : Nat → Int32) (q9 : Nat → Nat → Int32), (v7 = nI (rsnD (q 0) (iv (1 <<< (x5 &&& 31)))).1 ∧ q9 = q ∧ kR r r8 [17, 18, 19, 20, 21, 22, 23] ∧ (¬ (rsnD (q 0) (iv (1 <<< (x5 &&& 31)))).1 = 0 → r8 17 = (rsnD (q 0) (iv (1 <<< (x5 &&& 31)))).2) ∧ ((rsnD (q 0) (iv (1 <<< (x5 &&& 31)))).1 = 0 → r8 18 = gvF (q 0) (iv (1 <<< (x5 &&& 31))) ∧ r8 19 = gzF (q 0) (iv (1 <<< (x5 &&& 31))) ∧ r8 20 = wtF (q 0) (iv (gvF (q 0) (iv (1 <<< (x5 &&& 31))))) (iv (1 <<< (x5 &&& 31))) ∧ r8 21 = pcF (q 0) (iv (gvF (q 0) (iv (1 <<< (x5 &&& 31))))) (iv (1 <<< (x5 &&& 31))) ∧ r8 22 = lgF (q 0) (iv (gvF (q 0) (iv (1 <<< (x5 &&& 31))))) (iv (1 <<< (x5 &&& 31))) ∧ r8 23 = hdF (q 0) (iv (gvF (q 0) (iv (1 <<< (x5 &&& 31))))) (iv (1 <<< (x5 &&& 31))))) → (∀ v11 : Int64, v11 = (x3 + ((r8 20)).toInt64) → (∀ v12 : Int32, v12 = x5 + 1 → (rec x1 x2 v11 v12 r8 q9)))))))))
def wp_X11_shares_12 (K55 : Int32 → Int32 → Int64 → (Nat → Int32) → (Nat → Nat → Int32) → Prop) (P : RST → Prop) : Nat → Int32 → Int32 → Int64 → Int32 → (Nat → Int32) → (Nat → Nat → Int32) → Prop
  | 0 => fun _ _ _ _ _ _ => False
  | n + 1 => fun x1 x2 x3 x5 r q => wb_X11_shares_12 (wp_X11_shares_12 K55 P n) K55 P x1 x2 x3 x5 r q
set_option maxRecDepth 100000 in
set_option maxHeartbeats 4000000 in
theorem t_X11_shares_12 {p : Program} {l : Launch} {e : Env} {s : State} {m : MethodId} {args : Array Value} {below : List Frame} {meth : Method} {c : Code} {D : va_G} {A : Nat → Prop} {T : Nat → ClassId} {m0 : Nat} {a : Nat → Nat} (C : GC p s m args meth c cX11_shares "FreightRaterModel" (ws_X11_shares) 8 D A (zty T)) (hr : meth.sig.returnType = none) (K55 : Int32 → Int32 → Int64 → (Nat → Int32) → (Nat → Nat → Int32) → Prop) (P : RST → Prop) (hK55 : ∀ (x1 : Int32) (x2 : Int32) (x3 : Int64) (r : Nat → Int32) (q : Nat → Nat → Int32), K55 x1 x2 x3 r q → GW p l e rm_X11_shares s m args below meth c D A 8 0 0 (MQ below (va_Qv P (RE D T m0 a A) A) args s 0 0 A) (RW m0 a T r q) 0 0 55 [(0, .ref m0), (1, .int x1), (2, .int x2), (3, .long x3)] []) : ∀ (n : Nat) (x1 : Int32) (x2 : Int32) (x3 : Int64) (x5 : Int32) (r : Nat → Int32) (q : Nat → Nat → Int32), wp_X11_shares_12 K55 P n x1 x2 x3 x5 r q → GW p l e rm_X11_shares s m args below meth c D A 8 0 0 (MQ below (va_Qv P (RE D T m0 a A) A) args s 0 0 A) (RW m0 a T r q) 0 0 12 [(0, .ref m0), (1, .int x1), (2, .int x2), (3, .long x3), (5, .int x5)] [] := by
  have hw : ∀ {w : Cond}, w ∈ W0 → w.before args s = true := fun h => C.2.2.2.2.1 _ (List.mem_cons_of_mem _ h)
  intro n
  induction n with
  | zero => intro x1 x2 x3 x5 r q h; exact h.elim
  | succ n ih =>
    intro x1 x2 x3 x5 r q h
    replace h : wb_X11_shares_12 (wp_X11_shares_12 K55 P n) K55 P x1 x2 x3 x5 r q := h
    unfold wb_X11_shares_12 at h
    refine g_iload C dX11_shares_12 4 rfl ?_
    refine g_aload_n C dX11_shares_14 rfl 0 rfl ?_
    refine gr_get C iwx_X11 0 (hw kw_1809) (by decide) rfl rfl dX11_shares_15 ?_
    refine g_iconst (v := 1) C dX11_shares_18 (by decide) ?_
    obtain ⟨g3, h⟩ := h
    refine gr_ald_0 C g3 dX11_shares_19 ?_
    refine g_icmp_ge (tgt := 55) C dX11_shares_20 (by decide) (fun z4 => ?_) (fun z4 => ?_)
    · replace h := h.1 z4
      refine g_locals [0, 1, 2, 3] rfl ?_
      exact hK55 x1 x2 x3 r q h
    · replace h := h.2 z4
      refine g_iload_n C dX11_shares_23 rfl 1 rfl ?_
      refine g_iload C dX11_shares_24 4 rfl ?_
      refine gr_callSf C [.int x1, .int x5] rfl (k_X11_has l D T m0 a x1 x5 r q) (w0_S 2 C.2.2.2.2.1 kw_2178 kw_2179 kw_9 kw_2180 rfl rfl (by decide +kernel) ⟨by decide, by decide⟩) rfl (Nat.le_of_ble_eq_true rfl) (Nat.zero_le _) (Nat.zero_le _) dX11_shares_26 ?_
      refine g_if_eq (tgt := 49) C dX11_shares_29 (by decide) (fun z5 => ?_) (fun z5 => ?_)
      · replace h := h.1 z5
        obtain ⟨v6, ev6⟩ : ∃ y : Int32, y = x5 + 1 := ⟨_, rfl⟩
        replace h := h v6 ev6
        refine g_iinc (v := v6) (lv' := [(5, .int v6), (0, .ref m0), (1, .int x1), (2, .int x2), (3, .long x3)]) C dX11_shares_49 (j := 4) rfl (by rw [ev6]; rfl) (by decide) rfl ?_
        refine g_goto (tgt := 12) C dX11_shares_52 (by decide) ?_
        refine g_locals [1, 2, 3, 4, 0] rfl ?_
        exact ih x1 x2 x3 v6 r q h
      · replace h := h.2 z5
        refine g_aload_n C dX11_shares_32 rfl 0 rfl ?_
        refine g_iconst (v := 1) C dX11_shares_33 (by decide) ?_
        refine g_iload C dX11_shares_34 4 rfl ?_
        refine g_ishl C dX11_shares_36 ?_
        obtain ⟨g10, h⟩ := h
        refine gr_calliV C [.int (1 <<< (x5 &&& 31))] rfl (k_X11_reasonOf l D T m0 a (1 <<< (x5 &&& 31)) r q g10) (w0_V 1 C.2.2.2.2.1 kw_2171 kw_2173 ks_86 kw_9 kw_2174 rfl rfl (by decide +kernel) ⟨by decide, by decide⟩) rfl (Nat.le_of_ble_eq_true rfl) (Nat.zero_le _) (Nat.zero_le _) dX11_shares_37 (fun v7 r8 q9 hp => ?_)
        replace h := h v7 r8 q9 hp
        refine g_pop C dX11_shares_40 rfl ?_
        refine g_lload_n C dX11_shares_41 rfl 3 rfl ?_
        refine g_aload_n C dX11_shares_42 rfl 0 rfl ?_
        refine gr_get C iwx_X11 20 (hw kw_1829) (by decide) rfl rfl dX11_shares_43 ?_
        refine g_i2l C dX11_shares_46 rfl ?_
        refine g_ladd C dX11_shares_47 ?_
        refine g_topl (fun v11 ev11 => ?_)
        replace h := h v11 ev11
        refine g_lstore_n (lv' := [(3, .long v11), (0, .ref m0), (1, .int x1), (2, .int x2), (5, .int x5)]) C dX11_shares_48 rfl (by decide) rfl ?_
        obtain ⟨v12, ev12⟩ : ∃ y : Int32, y = x5 + 1 := ⟨_, rfl⟩
        replace h := h v12 ev12
        refine g_iinc (v := v12) (lv' := [(5, .int v12), (3, .long v11), (0, .ref m0), (1, .int x1), (2, .int x2)]) C dX11_shares_49 (j := 4) rfl (by rw [ev12]; rfl) (by decide) rfl ?_
        refine g_goto (tgt := 12) C dX11_shares_52 (by decide) ?_
        refine g_locals [2, 3, 4, 1, 0] rfl ?_
        exact ih x1 x2 v11 v12 r8 q9 h
def wb_X11_shares_61 (rec : Int32 → Int32 → Int64 → Int32 → Int32 → (Nat → Int32) → (Nat → Nat → Int32) → Prop) (K133 : Int32 → Int32 → (Nat → Int32) → (Nat → Nat → Int32) → Prop) (P : RST → Prop) (x1 : Int32) (x2 : Int32) (x3 : Int64) (x5 : Int32) (x6 : Int32) (r : Nat → Int32) (q : Nat → Nat → Int32) : Prop := vp_in 1 3334 ∧ (((q 0 (Int32.toNatClampNeg 1)) ≤ x6 → (K133 x1 x5 r q)) ∧ (¬ (q 0 (Int32.toNatClampNeg 1)) ≤ x6 → (((hasF x1 x6) = 0 → (∀ v21 : Int32, v21 = x6 + 1 → (rec x1 x2 x3 x5 v21 r q))) ∧ (¬ (hasF x1 x6) = 0 → ((WF (q 0) ∧ gok (q 0) (1 <<< (x6 &&& 31))) ∧ (∀ (v22 : Int32) (r23 : Nat → Int32) (q24 : Nat → Nat → Int32), (v22 = nI (rsnD (q 0) (iv (1 <<< (x6 &&& 31)))).1 ∧ q24 = q ∧ kR r r23 [17, 18, 19, 20, 21, 22, 23] ∧ (¬ (rsnD (q 0) (iv (1 <<< (x6 &&& 31)))).1 = 0 → r23 17 = (rsnD (q 0) (iv (1 <<< (x6 &&& 31)))).2) ∧ ((rsnD (q 0) (iv (1 <<< (x6 &&& 31)))).1 = 0 → r23 18 = gvF (q 0) (iv (1 <<< (x6 &&& 31))) ∧ r23 19 = gzF (q 0) (iv (1 <<< (x6 &&& 31))) ∧ r23 20 = wtF (q 0) (iv (gvF (q 0) (iv (1 <<< (x6 &&& 31))))) (iv (1 <<< (x6 &&& 31))) ∧ r23 21 = pcF (q 0) (iv (gvF (q 0) (iv (1 <<< (x6 &&& 31))))) (iv (1 <<< (x6 &&& 31))) ∧ r23 22 = lgF (q 0) (iv (gvF (q 0) (iv (1 <<< (x6 &&& 31))))) (iv (1 <<< (x6 &&& 31))) ∧ r23 23 = hdF (q 0) (iv (gvF (q 0) (iv (1 <<< (x6 &&& 31))))) (iv (1 <<< (x6 &&& 31))))) → (¬ x3 = 0 ∧ (∀ v27 : Int32, v27 = ((((x2).toInt64 * ((r23 20)).toInt64) / x3)).toInt32 → (vp_in ((14 + (26 * x6)) + 5) 3334 ∧ (∀ q29 : Nat → Nat → Int32, q29 = va_up q24 0 (upd (q24 0) (Int32.toNatClampNeg ((14 + (26 * x6)) + 5)) v27) → (∀ v30 : Int32, v30 = (x5 - v27) → (∀ v31 : Int32, v31 = x6 + 1 → (rec x1 x2 x3 v30 v31 r23 q29)))))))))))))
def wp_X11_shares_61 (K133 : Int32 → Int32 → (Nat → Int32) → (Nat → Nat → Int32) → Prop) (P : RST → Prop) : Nat → Int32 → Int32 → Int64 → Int32 → Int32 → (Nat → Int32) → (Nat → Nat → Int32) → Prop
  | 0 => fun _ _ _ _ _ _ _ => False
  | n + 1 => fun x1 x2 x3 x5 x6 r q => wb_X11_shares_61 (wp_X11_shares_61 K133 P n) K133 P x1 x2 x3 x5 x6 r q
set_option maxRecDepth 100000 in
set_option maxHeartbeats 4000000 in
theorem t_X11_shares_61 {p : Program} {l : Launch} {e : Env} {s : State} {m : MethodId} {args : Array Value} {below : List Frame} {meth : Method} {c : Code} {D : va_G} {A : Nat → Prop} {T : Nat → ClassId} {m0 : Nat} {a : Nat → Nat} (C : GC p s m args meth c cX11_shares "FreightRaterModel" (ws_X11_shares) 8 D A (zty T)) (hr : meth.sig.returnType = none) (K133 : Int32 → Int32 → (Nat → Int32) → (Nat → Nat → Int32) → Prop) (P : RST → Prop) (hK133 : ∀ (x1 : Int32) (x5 : Int32) (r : Nat → Int32) (q : Nat → Nat → Int32), K133 x1 x5 r q → GW p l e rm_X11_shares s m args below meth c D A 8 0 0 (MQ below (va_Qv P (RE D T m0 a A) A) args s 0 0 A) (RW m0 a T r q) 0 0 133 [(0, .ref m0), (1, .int x1), (5, .int x5)] []) : ∀ (n : Nat) (x1 : Int32) (x2 : Int32) (x3 : Int64) (x5 : Int32) (x6 : Int32) (r : Nat → Int32) (q : Nat → Nat → Int32), wp_X11_shares_61 K133 P n x1 x2 x3 x5 x6 r q → GW p l e rm_X11_shares s m args below meth c D A 8 0 0 (MQ below (va_Qv P (RE D T m0 a A) A) args s 0 0 A) (RW m0 a T r q) 0 0 61 [(0, .ref m0), (1, .int x1), (2, .int x2), (3, .long x3), (5, .int x5), (6, .int x6)] [] := by
  have hw : ∀ {w : Cond}, w ∈ W0 → w.before args s = true := fun h => C.2.2.2.2.1 _ (List.mem_cons_of_mem _ h)
  intro n
  induction n with
  | zero => intro x1 x2 x3 x5 x6 r q h; exact h.elim
  | succ n ih =>
    intro x1 x2 x3 x5 x6 r q h
    replace h : wb_X11_shares_61 (wp_X11_shares_61 K133 P n) K133 P x1 x2 x3 x5 x6 r q := h
    unfold wb_X11_shares_61 at h
    refine g_iload C dX11_shares_61 5 rfl ?_
    refine g_aload_n C dX11_shares_63 rfl 0 rfl ?_
    refine gr_get C iwx_X11 0 (hw kw_1809) (by decide) rfl rfl dX11_shares_64 ?_
    refine g_iconst (v := 1) C dX11_shares_67 (by decide) ?_
    obtain ⟨g18, h⟩ := h
    refine gr_ald_0 C g18 dX11_shares_68 ?_
    refine g_icmp_ge (tgt := 133) C dX11_shares_69 (by decide) (fun z19 => ?_) (fun z19 => ?_)
    · replace h := h.1 z19
      refine g_locals [0, 1, 4] rfl ?_
      exact hK133 x1 x5 r q h
    · replace h := h.2 z19
      refine g_iload_n C dX11_shares_72 rfl 1 rfl ?_
      refine g_iload C dX11_shares_73 5 rfl ?_
      refine gr_callSf C [.int x1, .int x6] rfl (k_X11_has l D T m0 a x1 x6 r q) (w0_S 2 C.2.2.2.2.1 kw_2178 kw_2179 kw_9 kw_2180 rfl rfl (by decide +kernel) ⟨by decide, by decide⟩) rfl (Nat.le_of_ble_eq_true rfl) (Nat.zero_le _) (Nat.zero_le _) dX11_shares_75 ?_
      refine g_if_eq (tgt := 127) C dX11_shares_78 (by decide) (fun z20 => ?_) (fun z20 => ?_)
      · replace h := h.1 z20
        obtain ⟨v21, ev21⟩ : ∃ y : Int32, y = x6 + 1 := ⟨_, rfl⟩
        replace h := h v21 ev21
        refine g_iinc (v := v21) (lv' := [(6, .int v21), (0, .ref m0), (1, .int x1), (2, .int x2), (3, .long x3), (5, .int x5)]) C dX11_shares_127 (j := 5) rfl (by rw [ev21]; rfl) (by decide) rfl ?_
        refine g_goto (tgt := 61) C dX11_shares_130 (by decide) ?_
        refine g_locals [1, 2, 3, 4, 5, 0] rfl ?_
        exact ih x1 x2 x3 x5 v21 r q h
      · replace h := h.2 z20
        refine g_aload_n C dX11_shares_81 rfl 0 rfl ?_
        refine g_iconst (v := 1) C dX11_shares_82 (by decide) ?_
        refine g_iload C dX11_shares_83 5 rfl ?_
        refine g_ishl C dX11_shares_85 ?_
        obtain ⟨g25, h⟩ := h
        refine gr_calliV C [.int (1 <<< (x6 &&& 31))] rfl (k_X11_reasonOf l D T m0 a (1 <<< (x6 &&& 31)) r q g25) (w0_V 1 C.2.2.2.2.1 kw_2171 kw_2173 ks_86 kw_9 kw_2174 rfl rfl (by decide +kernel) ⟨by decide, by decide⟩) rfl (Nat.le_of_ble_eq_true rfl) (Nat.zero_le _) (Nat.zero_le _) dX11_shares_86 (fun v22 r23 q24 hp => ?_)
        replace h := h v22 r23 q24 hp
        refine g_pop C dX11_shares_89 rfl ?_
        refine g_iload_n C dX11_shares_90 rfl 2 rfl ?_
        refine g_i2l C dX11_shares_91 rfl ?_
        refine g_aload_n C dX11_shares_92 rfl 0 rfl ?_
        refine gr_get C iwx_X11 20 (hw kw_1829) (by decide) rfl rfl dX11_shares_93 ?_
        refine g_i2l C dX11_shares_96 rfl ?_
        refine g_lmul C dX11_shares_97 ?_
        refine g_lload_n C dX11_shares_98 rfl 3 rfl ?_
        obtain ⟨g26, h⟩ := h
        refine g_ldiv C dX11_shares_99 g26 ?_
        refine g_l2i C dX11_shares_100 rfl ?_
        refine g_topi (fun v27 ev27 => ?_)
        replace h := h v27 ev27
        refine g_istore (lv' := [(7, .int v27), (0, .ref m0), (1, .int x1), (2, .int x2), (3, .long x3), (5, .int x5), (6, .int x6)]) C dX11_shares_101 (by decide) rfl ?_
        refine g_aload_n C dX11_shares_103 rfl 1 rfl ?_
        refine gr_get C iwx_X11 0 (hw kw_1809) (by decide) rfl rfl dX11_shares_104 ?_
        refine g_bipush (v := 14) C dX11_shares_107 (by decide) ?_
        refine g_bipush (v := 26) C dX11_shares_109 (by decide) ?_
        refine g_iload C dX11_shares_111 6 rfl ?_
        refine g_imul C dX11_shares_113 ?_
        refine g_iadd C dX11_shares_114 ?_
        refine g_iconst (v := 5) C dX11_shares_115 (by decide) ?_
        refine g_iadd C dX11_shares_116 ?_
        refine g_iload C dX11_shares_117 0 rfl ?_
        obtain ⟨g28, h⟩ := h
        refine gr_ast_0 C g28 dX11_shares_119 ?_
        refine gr_nq (fun q29 eq29 => ?_)
        replace h := h q29 eq29
        refine g_iload C dX11_shares_120 5 rfl ?_
        refine g_iload C dX11_shares_122 0 rfl ?_
        refine g_isub C dX11_shares_124 ?_
        refine g_topi (fun v30 ev30 => ?_)
        replace h := h v30 ev30
        refine g_istore (lv' := [(5, .int v30), (7, .int v27), (0, .ref m0), (1, .int x1), (2, .int x2), (3, .long x3), (6, .int x6)]) C dX11_shares_125 (by decide) rfl ?_
        obtain ⟨v31, ev31⟩ : ∃ y : Int32, y = x6 + 1 := ⟨_, rfl⟩
        replace h := h v31 ev31
        refine g_iinc (v := v31) (lv' := [(6, .int v31), (5, .int v30), (7, .int v27), (0, .ref m0), (1, .int x1), (2, .int x2), (3, .long x3)]) C dX11_shares_127 (j := 6) rfl (by rw [ev31]; rfl) (by decide) rfl ?_
        refine g_goto (tgt := 61) C dX11_shares_130 (by decide) ?_
        refine g_locals [3, 4, 5, 6, 1, 0] rfl ?_
        exact ih x1 x2 x3 v30 v31 r23 q29 h
def wb_X11_shares_136 (rec : Int32 → Int32 → Int32 → (Nat → Int32) → (Nat → Nat → Int32) → Prop) (P : RST → Prop) (x1 : Int32) (x5 : Int32) (x6 : Int32) (r : Nat → Int32) (q : Nat → Nat → Int32) : Prop := vp_in 1 3334 ∧ (((q 0 (Int32.toNatClampNeg 1)) ≤ x6 → (P (r, q))) ∧ (¬ (q 0 (Int32.toNatClampNeg 1)) ≤ x6 → (((hasF x1 x6) = 0 → (∀ v39 : Int32, v39 = x6 + 1 → (rec x1 x5 v39 r q))) ∧ (¬ (hasF x1 x6) = 0 → ((x5 ≤ 0 → (∀ v41 : Int32, v41 = x6 + 1 → (rec x1 x5 v41 r q))) ∧ (¬ x5 ≤ 0 → (vp_in ((14 + (26 * x6)) + 5) 3334 ∧ (vp_in ((14 + (26 * x6)) + 5) 3334 ∧ (∀ q44 : Nat → Nat → Int32, q44 = va_up q 0 (upd (q 0) (Int32.toNatClampNeg ((14 + (26 * x6)) + 5)) ((q 0 (Int32.toNatClampNeg ((14 + (26 * x6)) + 5))) + 1)) → (∀ v45 : Int32, v45 = x5 + (-1) → (∀ v46 : Int32, v46 = x6 + 1 → (rec x1 v45 v46 r q44))))))))))))
def wp_X11_shares_136 (P : RST → Prop) : Nat → Int32 → Int32 → Int32 → (Nat → Int32) → (Nat → Nat → Int32) → Prop
  | 0 => fun _ _ _ _ _ => False
  | n + 1 => fun x1 x5 x6 r q => wb_X11_shares_136 (wp_X11_shares_136  P n)  P x1 x5 x6 r q
set_option maxRecDepth 100000 in
set_option maxHeartbeats 4000000 in
theorem t_X11_shares_136 {p : Program} {l : Launch} {e : Env} {s : State} {m : MethodId} {args : Array Value} {below : List Frame} {meth : Method} {c : Code} {D : va_G} {A : Nat → Prop} {T : Nat → ClassId} {m0 : Nat} {a : Nat → Nat} (C : GC p s m args meth c cX11_shares "FreightRaterModel" (ws_X11_shares) 8 D A (zty T)) (hr : meth.sig.returnType = none) (P : RST → Prop) : ∀ (n : Nat) (x1 : Int32) (x5 : Int32) (x6 : Int32) (r : Nat → Int32) (q : Nat → Nat → Int32), wp_X11_shares_136  P n x1 x5 x6 r q → GW p l e rm_X11_shares s m args below meth c D A 8 0 0 (MQ below (va_Qv P (RE D T m0 a A) A) args s 0 0 A) (RW m0 a T r q) 0 0 136 [(0, .ref m0), (1, .int x1), (5, .int x5), (6, .int x6)] [] := by
  have hw : ∀ {w : Cond}, w ∈ W0 → w.before args s = true := fun h => C.2.2.2.2.1 _ (List.mem_cons_of_mem _ h)
  intro n
  induction n with
  | zero => intro x1 x5 x6 r q h; exact h.elim
  | succ n ih =>
    intro x1 x5 x6 r q h
    replace h : wb_X11_shares_136 (wp_X11_shares_136  P n)  P x1 x5 x6 r q := h
    unfold wb_X11_shares_136 at h
    refine g_iload C dX11_shares_136 3 rfl ?_
    refine g_aload_n C dX11_shares_138 rfl 0 rfl ?_
    refine gr_get C iwx_X11 0 (hw kw_1809) (by decide) rfl rfl dX11_shares_139 ?_
    refine g_iconst (v := 1) C dX11_shares_142 (by decide) ?_
    obtain ⟨g36, h⟩ := h
    refine gr_ald_0 C g36 dX11_shares_143 ?_
    refine g_icmp_ge (tgt := 189) C dX11_shares_144 (by decide) (fun z37 => ?_) (fun z37 => ?_)
    · replace h := h.1 z37
      exact gr_vret C hr dX11_shares_189 h
    · replace h := h.2 z37
      refine g_iload_n C dX11_shares_147 rfl 1 rfl ?_
      refine g_iload C dX11_shares_148 3 rfl ?_
      refine gr_callSf C [.int x1, .int x6] rfl (k_X11_has l D T m0 a x1 x6 r q) (w0_S 2 C.2.2.2.2.1 kw_2178 kw_2179 kw_9 kw_2180 rfl rfl (by decide +kernel) ⟨by decide, by decide⟩) rfl (Nat.le_of_ble_eq_true rfl) (Nat.zero_le _) (Nat.zero_le _) dX11_shares_150 ?_
      refine g_if_eq (tgt := 183) C dX11_shares_153 (by decide) (fun z38 => ?_) (fun z38 => ?_)
      · replace h := h.1 z38
        obtain ⟨v39, ev39⟩ : ∃ y : Int32, y = x6 + 1 := ⟨_, rfl⟩
        replace h := h v39 ev39
        refine g_iinc (v := v39) (lv' := [(6, .int v39), (0, .ref m0), (1, .int x1), (5, .int x5)]) C dX11_shares_183 (j := 3) rfl (by rw [ev39]; rfl) (by decide) rfl ?_
        refine g_goto (tgt := 136) C dX11_shares_186 (by decide) ?_
        refine g_locals [1, 2, 3, 0] rfl ?_
        exact ih x1 x5 v39 r q h
      · replace h := h.2 z38
        refine g_iload C dX11_shares_156 2 rfl ?_
        refine g_if_le (tgt := 183) C dX11_shares_158 (by decide) (fun z40 => ?_) (fun z40 => ?_)
        · replace h := h.1 z40
          obtain ⟨v41, ev41⟩ : ∃ y : Int32, y = x6 + 1 := ⟨_, rfl⟩
          replace h := h v41 ev41
          refine g_iinc (v := v41) (lv' := [(6, .int v41), (0, .ref m0), (1, .int x1), (5, .int x5)]) C dX11_shares_183 (j := 3) rfl (by rw [ev41]; rfl) (by decide) rfl ?_
          refine g_goto (tgt := 136) C dX11_shares_186 (by decide) ?_
          refine g_locals [1, 2, 3, 0] rfl ?_
          exact ih x1 x5 v41 r q h
        · replace h := h.2 z40
          refine g_aload_n C dX11_shares_161 rfl 0 rfl ?_
          refine gr_get C iwx_X11 0 (hw kw_1809) (by decide) rfl rfl dX11_shares_162 ?_
          refine g_bipush (v := 14) C dX11_shares_165 (by decide) ?_
          refine g_bipush (v := 26) C dX11_shares_167 (by decide) ?_
          refine g_iload C dX11_shares_169 3 rfl ?_
          refine g_imul C dX11_shares_171 ?_
          refine g_iadd C dX11_shares_172 ?_
          refine g_iconst (v := 5) C dX11_shares_173 (by decide) ?_
          refine g_iadd C dX11_shares_174 ?_
          refine g_dup2 C dX11_shares_175 rfl rfl ?_
          obtain ⟨g42, h⟩ := h
          refine gr_ald_0 C g42 dX11_shares_176 ?_
          refine g_iconst (v := 1) C dX11_shares_177 (by decide) ?_
          refine g_iadd C dX11_shares_178 ?_
          obtain ⟨g43, h⟩ := h
          refine gr_ast_0 C g43 dX11_shares_179 ?_
          refine gr_nq (fun q44 eq44 => ?_)
          replace h := h q44 eq44
          obtain ⟨v45, ev45⟩ : ∃ y : Int32, y = x5 + (-1) := ⟨_, rfl⟩
          replace h := h v45 ev45
          refine g_iinc (v := v45) (lv' := [(5, .int v45), (0, .ref m0), (1, .int x1), (6, .int x6)]) C dX11_shares_180 (j := 2) rfl (by rw [ev45]; rfl) (by decide) rfl ?_
          obtain ⟨v46, ev46⟩ : ∃ y : Int32, y = x6 + 1 := ⟨_, rfl⟩
          replace h := h v46 ev46
          refine g_iinc (v := v46) (lv' := [(6, .int v46), (5, .int v45), (0, .ref m0), (1, .int x1)]) C dX11_shares_183 (j := 3) rfl (by rw [ev46]; rfl) (by decide) rfl ?_
          refine g_goto (tgt := 136) C dX11_shares_186 (by decide) ?_
          refine g_locals [2, 3, 1, 0] rfl ?_
          exact ih x1 v45 v46 r q44 h
def wp_X11_shares (P : RST → Prop) (p0 : Int32) (r : Nat → Int32) (q : Nat → Nat → Int32) : Prop := vp_in p0 1024 ∧ (∀ v2 : Int32, v2 = (q 7 (Int32.toNatClampNeg p0)) → (∃ k49 : Nat, wp_X11_shares_12 (fun (y13 : Int32) (y14 : Int32) (y15 : Int64) (r16 : Nat → Int32) (q17 : Nat → Nat → Int32) => ∃ k48 : Nat, wp_X11_shares_61 (fun (y32 : Int32) (y33 : Int32) (r34 : Nat → Int32) (q35 : Nat → Nat → Int32) => ∃ k47 : Nat, wp_X11_shares_136  P k47 y32 y33 0 r34 q35) P k48 y13 y14 y15 y14 0 r16 q17) P k49 p0 v2 0 0 r q))
set_option maxRecDepth 100000 in
set_option maxHeartbeats 4000000 in
theorem t_X11_shares {p : Program} {l : Launch} {e : Env} {s : State} {m : MethodId} {args : Array Value} {below : List Frame} {meth : Method} {c : Code} {D : va_G} {A : Nat → Prop} {T : Nat → ClassId} {m0 : Nat} {a : Nat → Nat} (C : GC p s m args meth c cX11_shares "FreightRaterModel" (ws_X11_shares) 8 D A (zty T)) (hr : meth.sig.returnType = none) (P : RST → Prop) : ∀ (p0 : Int32) (r : Nat → Int32) (q : Nat → Nat → Int32), wp_X11_shares P p0 r q → GW p l e rm_X11_shares s m args below meth c D A 8 0 0 (MQ below (va_Qv P (RE D T m0 a A) A) args s 0 0 A) (RW m0 a T r q) 0 0 0 [(0, .ref m0), (1, .int p0)] [] := by
  have hw : ∀ {w : Cond}, w ∈ W0 → w.before args s = true := fun h => C.2.2.2.2.1 _ (List.mem_cons_of_mem _ h)
  intro p0 r q h
  unfold wp_X11_shares at h
  refine g_aload_n C dX11_shares_0 rfl 0 rfl ?_
  refine gr_get C iwx_X11 31 (hw kw_1840) (by decide) rfl rfl dX11_shares_1 ?_
  refine g_iload_n C dX11_shares_4 rfl 1 rfl ?_
  obtain ⟨g1, h⟩ := h
  refine gr_ald_7 C g1 dX11_shares_5 ?_
  refine g_topi (fun v2 ev2 => ?_)
  replace h := h v2 ev2
  refine g_istore_n (lv' := [(2, .int v2), (0, .ref m0), (1, .int p0)]) C dX11_shares_6 rfl (by decide) rfl ?_
  refine g_lconst (v := 0) C dX11_shares_7 rfl ?_
  refine g_lstore_n (lv' := [(3, .long 0), (2, .int v2), (0, .ref m0), (1, .int p0)]) C dX11_shares_8 rfl (by decide) rfl ?_
  refine g_iconst (v := 0) C dX11_shares_9 (by decide) ?_
  refine g_istore (lv' := [(5, .int 0), (3, .long 0), (2, .int v2), (0, .ref m0), (1, .int p0)]) C dX11_shares_10 (by decide) rfl ?_
  refine g_locals [3, 4, 2, 1, 0] rfl ?_
  obtain ⟨k49, h⟩ := h
  refine t_X11_shares_12 C hr _ P ?_ k49 p0 v2 0 0 r q h
  · intro y13 y14 y15 r16 q17 h
    refine g_iload_n C dX11_shares_55 rfl 2 rfl ?_
    refine g_istore (lv' := [(5, .int y14), (0, .ref m0), (1, .int y13), (2, .int y14), (3, .long y15)]) C dX11_shares_56 (by decide) rfl ?_
    refine g_iconst (v := 0) C dX11_shares_58 (by decide) ?_
    refine g_istore (lv' := [(6, .int 0), (5, .int y14), (0, .ref m0), (1, .int y13), (2, .int y14), (3, .long y15)]) C dX11_shares_59 (by decide) rfl ?_
    refine g_locals [2, 3, 4, 5, 1, 0] rfl ?_
    obtain ⟨k48, h⟩ := h
    refine t_X11_shares_61 C hr _ P ?_ k48 y13 y14 y15 y14 0 r16 q17 h
    · intro y32 y33 r34 q35 h
      refine g_iconst (v := 0) C dX11_shares_133 (by decide) ?_
      refine g_istore (lv' := [(6, .int 0), (0, .ref m0), (1, .int y32), (5, .int y33)]) C dX11_shares_134 (by decide) rfl ?_
      refine g_locals [1, 2, 3, 0] rfl ?_
      obtain ⟨k47, h⟩ := h
      refine t_X11_shares_136 C hr  P  k47 y32 y33 0 r34 q35 h
theorem c_X11_shares (l : Launch) (D : va_G) (T : Nat → ClassId) (m0 : Nat) (a : Nat → Nat) (p0 : Int32) (r : Nat → Int32) (q : Nat → Nat → Int32) (P : RST → Prop) (h : wp_X11_shares P p0 r q) : RMv l yX11_shares (ws_X11_shares) rm_X11_shares D T m0 a [.ref m0, .int p0] r q P := gr_metv (by decide) rfl rfl (Nat.le_of_ble_eq_true rfl) (fun p e s m args below meth c A C hr => t_X11_shares C hr P p0 r q h)
def wb_X11_amend_31 (rec : Int32 → Int32 → (Nat → Int32) → (Nat → Nat → Int32) → Prop) (K49 : Int32 → (Nat → Int32) → (Nat → Nat → Int32) → Prop) (P : Int32 → RST → Prop) (x1 : Int32) (x2 : Int32) (r : Nat → Int32) (q : Nat → Nat → Int32) : Prop := (x2 = 0 → (K49 x1 r q)) ∧ (¬ x2 = 0 → ((psO r ∧ (pσ r).2 = false ∧ tsL r ∧ smX r) ∧ (∀ (r9 : Nat → Int32) (q10 : Nat → Nat → Int32), (smP r q r9 q10) → ((psO r9 ∧ ¬ 59 = (-1 : Int32)) ∧ (∀ (v12 : Int32) (r13 : Nat → Int32) (q14 : Nat → Nat → Int32), (v12 = b2i (tkB (q10 4) (iv (r9 8)) (pσ r9) 59) ∧ q14 = q10 ∧ kR r9 r13 [10] ∧ psO r13 ∧ pσ r13 = tkS (q10 4) (iv (r9 8)) (pσ r9) 59) → (rec x1 v12 r13 q14))))))
def wp_X11_amend_31 (K49 : Int32 → (Nat → Int32) → (Nat → Nat → Int32) → Prop) (P : Int32 → RST → Prop) : Nat → Int32 → Int32 → (Nat → Int32) → (Nat → Nat → Int32) → Prop
  | 0 => fun _ _ _ _ => False
  | n + 1 => fun x1 x2 r q => wb_X11_amend_31 (wp_X11_amend_31 K49 P n) K49 P x1 x2 r q
set_option maxRecDepth 100000 in
set_option maxHeartbeats 4000000 in
theorem t_X11_amend_31 {p : Program} {l : Launch} {e : Env} {s : State} {m : MethodId} {args : Array Value} {below : List Frame} {meth : Method} {c : Code} {D : va_G} {A : Nat → Prop} {T : Nat → ClassId} {m0 : Nat} {a : Nat → Nat} (C : GC p s m args meth c cX11_amend "FreightRaterModel" (ws_X11_amend) 6 D A (zty T)) (hr : meth.sig.returnType = (some .int)) (K49 : Int32 → (Nat → Int32) → (Nat → Nat → Int32) → Prop) (P : Int32 → RST → Prop) (hK49 : ∀ (x1 : Int32) (r : Nat → Int32) (q : Nat → Nat → Int32), K49 x1 r q → GW p l e rm_X11_amend s m args below meth c D A 6 0 0 (MQ below (va_Qi P (RE D T m0 a A) A) args s 0 0 A) (RW m0 a T r q) 0 0 49 [(0, .ref m0), (1, .int x1)] []) : ∀ (n : Nat) (x1 : Int32) (x2 : Int32) (r : Nat → Int32) (q : Nat → Nat → Int32), wp_X11_amend_31 K49 P n x1 x2 r q → GW p l e rm_X11_amend s m args below meth c D A 6 0 0 (MQ below (va_Qi P (RE D T m0 a A) A) args s 0 0 A) (RW m0 a T r q) 0 0 31 [(0, .ref m0), (1, .int x1), (2, .int x2)] [] := by
  have hw : ∀ {w : Cond}, w ∈ W0 → w.before args s = true := fun h => C.2.2.2.2.1 _ (List.mem_cons_of_mem _ h)
  intro n
  induction n with
  | zero => intro x1 x2 r q h; exact h.elim
  | succ n ih =>
    intro x1 x2 r q h
    replace h : wb_X11_amend_31 (wp_X11_amend_31 K49 P n) K49 P x1 x2 r q := h
    unfold wb_X11_amend_31 at h
    refine g_iload_n C dX11_amend_31 rfl 2 rfl ?_
    refine g_if_eq (tgt := 49) C dX11_amend_32 (by decide) (fun z7 => ?_) (fun z7 => ?_)
    · replace h := h.1 z7
      refine g_locals [0, 1] rfl ?_
      exact hK49 x1 r q h
    · replace h := h.2 z7
      refine g_aload_n C dX11_amend_35 rfl 0 rfl ?_
      obtain ⟨g11, h⟩ := h
      refine gr_callvV C [] rfl (k_X11_readStatement l D T m0 a  r q g11) (w0_V 0 C.2.2.2.2.1 kw_2034 kw_2036 ks_61 kw_9 kw_2037 rfl rfl (by decide +kernel) ⟨by decide, by decide⟩) rfl (Nat.le_of_ble_eq_true rfl) (Nat.zero_le _) (Nat.zero_le _) dX11_amend_36 (fun r9 q10 hp => ?_)
      replace h := h r9 q10 hp
      refine g_aload_n C dX11_amend_39 rfl 0 rfl ?_
      refine g_bipush (v := 59) C dX11_amend_40 (by decide) ?_
      obtain ⟨g15, h⟩ := h
      refine gr_calliV C [.int 59] rfl (k_X11_takes l D T m0 a 59 r9 q10 g15) (w0_V 1 C.2.2.2.2.1 kw_2054 kw_2056 ks_66 kw_9 kw_2057 rfl rfl (by decide +kernel) ⟨by decide, by decide⟩) rfl (Nat.le_of_ble_eq_true rfl) (Nat.zero_le _) (Nat.zero_le _) dX11_amend_42 (fun v12 r13 q14 hp => ?_)
      replace h := h v12 r13 q14 hp
      refine g_istore_n (lv' := [(2, .int v12), (0, .ref m0), (1, .int x1)]) C dX11_amend_45 rfl (by decide) rfl ?_
      refine g_goto (tgt := 31) C dX11_amend_46 (by decide) ?_
      refine g_locals [1, 2, 0] rfl ?_
      exact ih x1 v12 r13 q14 h
def wb_X11_amend_99 (rec : Int32 → Int32 → (Nat → Int32) → (Nat → Nat → Int32) → Prop) (K127 : Int32 → (Nat → Int32) → (Nat → Nat → Int32) → Prop) (P : Int32 → RST → Prop) (x1 : Int32) (x4 : Int32) (r : Nat → Int32) (q : Nat → Nat → Int32) : Prop := (3334 ≤ x4 → (K127 x1 r q)) ∧ (¬ 3334 ≤ x4 → (vp_in x4 3334 ∧ (vp_in x4 3334 ∧ (∀ q27 : Nat → Nat → Int32, q27 = va_up q 2 (upd (q 2) (Int32.toNatClampNeg x4) (q 0 (Int32.toNatClampNeg x4))) → (∀ v28 : Int32, v28 = x4 + 1 → (rec x1 v28 r q27))))))
def wp_X11_amend_99 (K127 : Int32 → (Nat → Int32) → (Nat → Nat → Int32) → Prop) (P : Int32 → RST → Prop) : Nat → Int32 → Int32 → (Nat → Int32) → (Nat → Nat → Int32) → Prop
  | 0 => fun _ _ _ _ => False
  | n + 1 => fun x1 x4 r q => wb_X11_amend_99 (wp_X11_amend_99 K127 P n) K127 P x1 x4 r q
set_option maxRecDepth 100000 in
set_option maxHeartbeats 4000000 in
theorem t_X11_amend_99 {p : Program} {l : Launch} {e : Env} {s : State} {m : MethodId} {args : Array Value} {below : List Frame} {meth : Method} {c : Code} {D : va_G} {A : Nat → Prop} {T : Nat → ClassId} {m0 : Nat} {a : Nat → Nat} (C : GC p s m args meth c cX11_amend "FreightRaterModel" (ws_X11_amend) 6 D A (zty T)) (hr : meth.sig.returnType = (some .int)) (K127 : Int32 → (Nat → Int32) → (Nat → Nat → Int32) → Prop) (P : Int32 → RST → Prop) (hK127 : ∀ (x1 : Int32) (r : Nat → Int32) (q : Nat → Nat → Int32), K127 x1 r q → GW p l e rm_X11_amend s m args below meth c D A 6 0 0 (MQ below (va_Qi P (RE D T m0 a A) A) args s 0 0 A) (RW m0 a T r q) 0 0 127 [(0, .ref m0), (1, .int x1)] []) : ∀ (n : Nat) (x1 : Int32) (x4 : Int32) (r : Nat → Int32) (q : Nat → Nat → Int32), wp_X11_amend_99 K127 P n x1 x4 r q → GW p l e rm_X11_amend s m args below meth c D A 6 0 0 (MQ below (va_Qi P (RE D T m0 a A) A) args s 0 0 A) (RW m0 a T r q) 0 0 99 [(0, .ref m0), (1, .int x1), (4, .int x4)] [] := by
  have hw : ∀ {w : Cond}, w ∈ W0 → w.before args s = true := fun h => C.2.2.2.2.1 _ (List.mem_cons_of_mem _ h)
  intro n
  induction n with
  | zero => intro x1 x4 r q h; exact h.elim
  | succ n ih =>
    intro x1 x4 r q h
    replace h : wb_X11_amend_99 (wp_X11_amend_99 K127 P n) K127 P x1 x4 r q := h
    unfold wb_X11_amend_99 at h
    refine g_iload C dX11_amend_99 2 rfl ?_
    refine g_sipush (v := 3334) C dX11_amend_101 (by decide) ?_
    refine g_icmp_ge (tgt := 127) C dX11_amend_104 (by decide) (fun z24 => ?_) (fun z24 => ?_)
    · replace h := h.1 z24
      refine g_locals [0, 1] rfl ?_
      exact hK127 x1 r q h
    · replace h := h.2 z24
      refine g_aload_n C dX11_amend_107 rfl 0 rfl ?_
      refine gr_get C iwx_X11 2 (hw kw_1811) (by decide) rfl rfl dX11_amend_108 ?_
      refine g_iload C dX11_amend_111 2 rfl ?_
      refine g_aload_n C dX11_amend_113 rfl 0 rfl ?_
      refine gr_get C iwx_X11 0 (hw kw_1809) (by decide) rfl rfl dX11_amend_114 ?_
      refine g_iload C dX11_amend_117 2 rfl ?_
      obtain ⟨g25, h⟩ := h
      refine gr_ald_0 C g25 dX11_amend_119 ?_
      obtain ⟨g26, h⟩ := h
      refine gr_ast_2 C g26 dX11_amend_120 ?_
      refine gr_nq (fun q27 eq27 => ?_)
      replace h := h q27 eq27
      obtain ⟨v28, ev28⟩ : ∃ y : Int32, y = x4 + 1 := ⟨_, rfl⟩
      replace h := h v28 ev28
      refine g_iinc (v := v28) (lv' := [(4, .int v28), (0, .ref m0), (1, .int x1)]) C dX11_amend_121 (j := 2) rfl (by rw [ev28]; rfl) (by decide) rfl ?_
      refine g_goto (tgt := 99) C dX11_amend_124 (by decide) ?_
      refine g_locals [1, 2, 0] rfl ?_
      exact ih x1 v28 r q27 h
def wb_X11_amend_130 (rec : Int32 → Int32 → (Nat → Int32) → (Nat → Nat → Int32) → Prop) (K152 : Int32 → (Nat → Int32) → (Nat → Nat → Int32) → Prop) (P : Int32 → RST → Prop) (x1 : Int32) (x4 : Int32) (r : Nat → Int32) (q : Nat → Nat → Int32) : Prop := ((r 13) ≤ x4 → ((CW8 r) ∧ (∀ (r34 : Nat → Int32) (q35 : Nat → Nat → Int32), (kR r r34 [5] ∧ kQ q q35 [3] ∧ psh (q 3) (q35 3) (q 2) (r 5) (r34 5)) → (P (r34 13) (r34, q35))))) ∧ (¬ (r 13) ≤ x4 → ((WF (q 0) ∧ vix x1 ∧ s8 (8 * x4) ∧ crO (q 5) (iv (8 * x4))) ∧ (∀ (v37 : Int32) (r38 : Nat → Int32) (q39 : Nat → Nat → Int32), (v37 = b2i (crB (q 0) (iv x1) (q 5 (iv (8 * x4))) (q 5 (iv (8 * x4) + 1)) (q 5 (iv (8 * x4) + 2)) (q 5 (iv (8 * x4) + 3))) ∧ r38 = r ∧ kQ q q39 [0] ∧ (crB (q 0) (iv x1) (q 5 (iv (8 * x4))) (q 5 (iv (8 * x4) + 1)) (q 5 (iv (8 * x4) + 2)) (q 5 (iv (8 * x4) + 3)) = true → q39 0 = crS (q 0) (iv x1) (q 5 (iv (8 * x4))) (q 5 (iv (8 * x4) + 1)) (q 5 (iv (8 * x4) + 2)) (q 5 (iv (8 * x4) + 3)) (q 5 (iv (8 * x4) + 5)) (q 5 (iv (8 * x4) + 6) - q 5 (iv (8 * x4) + 4)) (fun j => q 6 (iv (q 5 (iv (8 * x4) + 4)) + j)) (q 5 (iv (8 * x4) + 7)))) → ((¬ v37 = 0 → (∀ v42 : Int32, v42 = x4 + 1 → (rec x1 v42 r38 q39))) ∧ (v37 = 0 → (K152 x4 r38 q39))))))
def wp_X11_amend_130 (K152 : Int32 → (Nat → Int32) → (Nat → Nat → Int32) → Prop) (P : Int32 → RST → Prop) : Nat → Int32 → Int32 → (Nat → Int32) → (Nat → Nat → Int32) → Prop
  | 0 => fun _ _ _ _ => False
  | n + 1 => fun x1 x4 r q => wb_X11_amend_130 (wp_X11_amend_130 K152 P n) K152 P x1 x4 r q
set_option maxRecDepth 100000 in
set_option maxHeartbeats 4000000 in
theorem t_X11_amend_130 {p : Program} {l : Launch} {e : Env} {s : State} {m : MethodId} {args : Array Value} {below : List Frame} {meth : Method} {c : Code} {D : va_G} {A : Nat → Prop} {T : Nat → ClassId} {m0 : Nat} {a : Nat → Nat} (C : GC p s m args meth c cX11_amend "FreightRaterModel" (ws_X11_amend) 6 D A (zty T)) (hr : meth.sig.returnType = (some .int)) (K152 : Int32 → (Nat → Int32) → (Nat → Nat → Int32) → Prop) (P : Int32 → RST → Prop) (hK152 : ∀ (x4 : Int32) (r : Nat → Int32) (q : Nat → Nat → Int32), K152 x4 r q → GW p l e rm_X11_amend s m args below meth c D A 6 0 0 (MQ below (va_Qi P (RE D T m0 a A) A) args s 0 0 A) (RW m0 a T r q) 0 0 152 [(0, .ref m0), (4, .int x4)] []) : ∀ (n : Nat) (x1 : Int32) (x4 : Int32) (r : Nat → Int32) (q : Nat → Nat → Int32), wp_X11_amend_130 K152 P n x1 x4 r q → GW p l e rm_X11_amend s m args below meth c D A 6 0 0 (MQ below (va_Qi P (RE D T m0 a A) A) args s 0 0 A) (RW m0 a T r q) 0 0 130 [(0, .ref m0), (1, .int x1), (4, .int x4)] [] := by
  have hw : ∀ {w : Cond}, w ∈ W0 → w.before args s = true := fun h => C.2.2.2.2.1 _ (List.mem_cons_of_mem _ h)
  intro n
  induction n with
  | zero => intro x1 x4 r q h; exact h.elim
  | succ n ih =>
    intro x1 x4 r q h
    replace h : wb_X11_amend_130 (wp_X11_amend_130 K152 P n) K152 P x1 x4 r q := h
    unfold wb_X11_amend_130 at h
    refine g_iload C dX11_amend_130 2 rfl ?_
    refine g_aload_n C dX11_amend_132 rfl 0 rfl ?_
    refine gr_get C iwx_X11 13 (hw kw_1822) (by decide) rfl rfl dX11_amend_133 ?_
    refine g_icmp_ge (tgt := 201) C dX11_amend_136 (by decide) (fun z32 => ?_) (fun z32 => ?_)
    · replace h := h.1 z32
      refine g_aload_n C dX11_amend_201 rfl 0 rfl ?_
      refine g_aload_n C dX11_amend_202 rfl 0 rfl ?_
      refine gr_get C iwx_X11 2 (hw kw_1811) (by decide) rfl rfl dX11_amend_203 ?_
      obtain ⟨g36, h⟩ := h
      refine gr_callvV C [.ref (a 2)] rfl (k_X11_keepAs_2 l D T m0 a  r q g36) (w0_V 1 C.2.2.2.2.1 kw_1958 kw_1960 ks_52 kw_9 kw_1961 rfl rfl (by decide +kernel) ⟨by decide, by decide⟩) rfl (Nat.le_of_ble_eq_true rfl) (Nat.zero_le _) (Nat.zero_le _) dX11_amend_206 (fun r34 q35 hp => ?_)
      replace h := h r34 q35 hp
      refine g_aload_n C dX11_amend_209 rfl 0 rfl ?_
      refine gr_get C iwx_X11 13 (hw kw_1822) (by decide) rfl rfl dX11_amend_210 ?_
      exact gr_iret C hr dX11_amend_213 h
    · replace h := h.2 z32
      refine g_aload_n C dX11_amend_139 rfl 0 rfl ?_
      refine g_iload_n C dX11_amend_140 rfl 1 rfl ?_
      refine g_bipush (v := 8) C dX11_amend_141 (by decide) ?_
      refine g_iload C dX11_amend_143 2 rfl ?_
      refine g_imul C dX11_amend_145 ?_
      obtain ⟨g40, h⟩ := h
      refine gr_calliV C [.int x1, .int (8 * x4)] rfl (k_X11_carries l D T m0 a x1 (8 * x4) r q g40) (w0_V 2 C.2.2.2.2.1 kw_2080 kw_2082 ks_71 kw_9 kw_2083 rfl rfl (by decide +kernel) ⟨by decide, by decide⟩) rfl (Nat.le_of_ble_eq_true rfl) (Nat.zero_le _) (Nat.zero_le _) dX11_amend_146 (fun v37 r38 q39 hp => ?_)
      replace h := h v37 r38 q39 hp
      refine g_if_ne (tgt := 195) C dX11_amend_149 (by decide) (fun z41 => ?_) (fun z41 => ?_)
      · replace h := h.1 z41
        obtain ⟨v42, ev42⟩ : ∃ y : Int32, y = x4 + 1 := ⟨_, rfl⟩
        replace h := h v42 ev42
        refine g_iinc (v := v42) (lv' := [(4, .int v42), (0, .ref m0), (1, .int x1)]) C dX11_amend_195 (j := 2) rfl (by rw [ev42]; rfl) (by decide) rfl ?_
        refine g_goto (tgt := 130) C dX11_amend_198 (by decide) ?_
        refine g_locals [1, 2, 0] rfl ?_
        exact ih x1 v42 r38 q39 h
      · replace h := h.2 z41
        refine g_locals [0, 2] rfl ?_
        exact hK152 x4 r38 q39 h
def wb_X11_amend_161 (rec : Int32 → (Nat → Int32) → (Nat → Nat → Int32) → Prop) (P : Int32 → RST → Prop) (x5 : Int32) (r : Nat → Int32) (q : Nat → Nat → Int32) : Prop := (3334 ≤ x5 → (∀ (v48 : Int32) (r49 : Nat → Int32) (q50 : Nat → Nat → Int32), (v48 = 0 ∧ r49 = va_up r 6 2 ∧ q50 = q) → (P v48 (r49, q50)))) ∧ (¬ 3334 ≤ x5 → (vp_in x5 3334 ∧ (vp_in x5 3334 ∧ (∀ q53 : Nat → Nat → Int32, q53 = va_up q 0 (upd (q 0) (Int32.toNatClampNeg x5) (q 2 (Int32.toNatClampNeg x5))) → (∀ v54 : Int32, v54 = x5 + 1 → (rec v54 r q53))))))
def wp_X11_amend_161 (P : Int32 → RST → Prop) : Nat → Int32 → (Nat → Int32) → (Nat → Nat → Int32) → Prop
  | 0 => fun _ _ _ => False
  | n + 1 => fun x5 r q => wb_X11_amend_161 (wp_X11_amend_161  P n)  P x5 r q
set_option maxRecDepth 100000 in
set_option maxHeartbeats 4000000 in
theorem t_X11_amend_161 {p : Program} {l : Launch} {e : Env} {s : State} {m : MethodId} {args : Array Value} {below : List Frame} {meth : Method} {c : Code} {D : va_G} {A : Nat → Prop} {T : Nat → ClassId} {m0 : Nat} {a : Nat → Nat} (C : GC p s m args meth c cX11_amend "FreightRaterModel" (ws_X11_amend) 6 D A (zty T)) (hr : meth.sig.returnType = (some .int)) (P : Int32 → RST → Prop) : ∀ (n : Nat) (x5 : Int32) (r : Nat → Int32) (q : Nat → Nat → Int32), wp_X11_amend_161  P n x5 r q → GW p l e rm_X11_amend s m args below meth c D A 6 0 0 (MQ below (va_Qi P (RE D T m0 a A) A) args s 0 0 A) (RW m0 a T r q) 0 0 161 [(0, .ref m0), (5, .int x5)] [] := by
  have hw : ∀ {w : Cond}, w ∈ W0 → w.before args s = true := fun h => C.2.2.2.2.1 _ (List.mem_cons_of_mem _ h)
  intro n
  induction n with
  | zero => intro x5 r q h; exact h.elim
  | succ n ih =>
    intro x5 r q h
    replace h : wb_X11_amend_161 (wp_X11_amend_161  P n)  P x5 r q := h
    unfold wb_X11_amend_161 at h
    refine g_iload C dX11_amend_161 1 rfl ?_
    refine g_sipush (v := 3334) C dX11_amend_163 (by decide) ?_
    refine g_icmp_ge (tgt := 189) C dX11_amend_166 (by decide) (fun z47 => ?_) (fun z47 => ?_)
    · replace h := h.1 z47
      refine g_aload_n C dX11_amend_189 rfl 0 rfl ?_
      refine g_iconst (v := 2) C dX11_amend_190 (by decide) ?_
      refine gr_calliV C [.int 2] rfl (k_X11_refuse l D T m0 a 2 r q) (w0_V 1 C.2.2.2.2.1 kw_1950 kw_1952 ks_50 kw_9 kw_1953 rfl rfl (by decide +kernel) ⟨by decide, by decide⟩) rfl (Nat.le_of_ble_eq_true rfl) (Nat.zero_le _) (Nat.zero_le _) dX11_amend_191 (fun v48 r49 q50 hp => ?_)
      replace h := h v48 r49 q50 hp
      exact gr_iret C hr dX11_amend_194 h
    · replace h := h.2 z47
      refine g_aload_n C dX11_amend_169 rfl 0 rfl ?_
      refine gr_get C iwx_X11 0 (hw kw_1809) (by decide) rfl rfl dX11_amend_170 ?_
      refine g_iload C dX11_amend_173 1 rfl ?_
      refine g_aload_n C dX11_amend_175 rfl 0 rfl ?_
      refine gr_get C iwx_X11 2 (hw kw_1811) (by decide) rfl rfl dX11_amend_176 ?_
      refine g_iload C dX11_amend_179 1 rfl ?_
      obtain ⟨g51, h⟩ := h
      refine gr_ald_2 C g51 dX11_amend_181 ?_
      obtain ⟨g52, h⟩ := h
      refine gr_ast_0 C g52 dX11_amend_182 ?_
      refine gr_nq (fun q53 eq53 => ?_)
      replace h := h q53 eq53
      obtain ⟨v54, ev54⟩ : ∃ y : Int32, y = x5 + 1 := ⟨_, rfl⟩
      replace h := h v54 ev54
      refine g_iinc (v := v54) (lv' := [(5, .int v54), (0, .ref m0)]) C dX11_amend_183 (j := 1) rfl (by rw [ev54]; rfl) (by decide) rfl ?_
      refine g_goto (tgt := 161) C dX11_amend_186 (by decide) ?_
      refine g_locals [1, 0] rfl ?_
      exact ih v54 r q53 h
def wp_X11_amend (P : Int32 → RST → Prop) (p0 : Int32) (r : Nat → Int32) (q : Nat → Nat → Int32) : Prop := ∀ r1 : Nat → Int32, r1 = va_up r 6 0 → (∀ r2 : Nat → Int32, r2 = va_up r1 10 0 → (∀ r3 : Nat → Int32, r3 = va_up r2 11 0 → (∀ r4 : Nat → Int32, r4 = va_up r3 13 0 → (∀ r5 : Nat → Int32, r5 = va_up r4 15 0 → (∀ v6 : Int32, v6 = (zin p0 0 (q 0 0 - 1)) → (∃ k61 : Nat, wp_X11_amend_31 (fun (y16 : Int32) (r17 : Nat → Int32) (q18 : Nat → Nat → Int32) => ∀ v19 : Int32, v19 = (r17 8) → (∀ r20 : Nat → Int32, r20 = va_up r17 8 0 → ((¬ (zin y16 0 (q18 0 0 - 1)) = 0 → ((¬ (r20 11) = 0 → (P ((-100) - (r20 10)) (r20, q18))) ∧ ((r20 11) = 0 → ((v19 ≤ (r20 10) → (∃ k57 : Nat, wp_X11_amend_99 (fun (y29 : Int32) (r30 : Nat → Int32) (q31 : Nat → Nat → Int32) => ∃ k56 : Nat, wp_X11_amend_130 (fun (y43 : Int32) (r44 : Nat → Int32) (q45 : Nat → Nat → Int32) => ∀ r46 : Nat → Int32, r46 = va_up r44 12 y43 → (∃ k55 : Nat, wp_X11_amend_161  P k55 0 r46 q45)) P k56 y29 0 r30 q31) P k57 y16 0 r20 q18)) ∧ (¬ v19 ≤ (r20 10) → (P ((-100) - (r20 10)) (r20, q18))))))) ∧ ((zin y16 0 (q18 0 0 - 1)) = 0 → (∀ (v58 : Int32) (r59 : Nat → Int32) (q60 : Nat → Nat → Int32), (v58 = 0 ∧ r59 = va_up r20 6 1 ∧ q60 = q18) → (P v58 (r59, q60))))))) P k61 p0 v6 r5 q))))))
set_option maxRecDepth 100000 in
set_option maxHeartbeats 4000000 in
theorem t_X11_amend {p : Program} {l : Launch} {e : Env} {s : State} {m : MethodId} {args : Array Value} {below : List Frame} {meth : Method} {c : Code} {D : va_G} {A : Nat → Prop} {T : Nat → ClassId} {m0 : Nat} {a : Nat → Nat} (C : GC p s m args meth c cX11_amend "FreightRaterModel" (ws_X11_amend) 6 D A (zty T)) (hr : meth.sig.returnType = (some .int)) (P : Int32 → RST → Prop) : ∀ (p0 : Int32) (r : Nat → Int32) (q : Nat → Nat → Int32), wp_X11_amend P p0 r q → GW p l e rm_X11_amend s m args below meth c D A 6 0 0 (MQ below (va_Qi P (RE D T m0 a A) A) args s 0 0 A) (RW m0 a T r q) 0 0 0 [(0, .ref m0), (1, .int p0)] [] := by
  have hw : ∀ {w : Cond}, w ∈ W0 → w.before args s = true := fun h => C.2.2.2.2.1 _ (List.mem_cons_of_mem _ h)
  intro p0 r q h
  unfold wp_X11_amend at h
  refine g_aload_n C dX11_amend_0 rfl 0 rfl ?_
  refine g_iconst (v := 0) C dX11_amend_1 (by decide) ?_
  refine gr_put_6 C iwx_X11 (hw kw_1815) dX11_amend_2 ?_
  refine gr_nr (fun r1 er1 => ?_)
  replace h := h r1 er1
  refine g_aload_n C dX11_amend_5 rfl 0 rfl ?_
  refine g_iconst (v := 0) C dX11_amend_6 (by decide) ?_
  refine gr_put_10 C iwx_X11 (hw kw_1819) dX11_amend_7 ?_
  refine gr_nr (fun r2 er2 => ?_)
  replace h := h r2 er2
  refine g_aload_n C dX11_amend_10 rfl 0 rfl ?_
  refine g_iconst (v := 0) C dX11_amend_11 (by decide) ?_
  refine gr_put_11 C iwx_X11 vz0 (hw kw_1820) dX11_amend_12 ?_
  refine gr_nr (fun r3 er3 => ?_)
  replace h := h r3 er3
  refine g_aload_n C dX11_amend_15 rfl 0 rfl ?_
  refine g_iconst (v := 0) C dX11_amend_16 (by decide) ?_
  refine gr_put_13 C iwx_X11 (hw kw_1822) dX11_amend_17 ?_
  refine gr_nr (fun r4 er4 => ?_)
  replace h := h r4 er4
  refine g_aload_n C dX11_amend_20 rfl 0 rfl ?_
  refine g_iconst (v := 0) C dX11_amend_21 (by decide) ?_
  refine gr_put_15 C iwx_X11 (hw kw_1824) dX11_amend_22 ?_
  refine gr_nr (fun r5 er5 => ?_)
  replace h := h r5 er5
  refine g_aload_n C dX11_amend_25 rfl 0 rfl ?_
  refine g_iload_n C dX11_amend_26 rfl 1 rfl ?_
  refine gr_callVf C [.int p0] rfl (k_X11_isVersion l D T m0 a p0 r5 q) (w0_V 1 C.2.2.2.2.1 kw_1954 kw_1956 ks_51 kw_9 kw_1957 rfl rfl (by decide +kernel) ⟨by decide, by decide⟩) rfl (Nat.le_of_ble_eq_true rfl) (Nat.zero_le _) (Nat.zero_le _) dX11_amend_27 ?_
  refine g_topi (fun v6 ev6 => ?_)
  replace h := h v6 ev6
  refine g_istore_n (lv' := [(2, .int v6), (0, .ref m0), (1, .int p0)]) C dX11_amend_30 rfl (by decide) rfl ?_
  refine g_locals [1, 2, 0] rfl ?_
  obtain ⟨k61, h⟩ := h
  refine t_X11_amend_31 C hr _ P ?_ k61 p0 v6 r5 q h
  · intro y16 r17 q18 h
    refine g_aload_n C dX11_amend_49 rfl 0 rfl ?_
    refine gr_get C iwx_X11 8 (hw kw_1817) (by decide) rfl rfl dX11_amend_50 ?_
    refine g_topi (fun v19 ev19 => ?_)
    replace h := h v19 ev19
    refine g_istore_n (lv' := [(3, .int v19), (0, .ref m0), (1, .int y16)]) C dX11_amend_53 rfl (by decide) rfl ?_
    refine g_aload_n C dX11_amend_54 rfl 1 rfl ?_
    refine g_iconst (v := 0) C dX11_amend_55 (by decide) ?_
    refine gr_put_8 C iwx_X11 (hw kw_1817) dX11_amend_56 ?_
    refine gr_nr (fun r20 er20 => ?_)
    replace h := h r20 er20
    refine g_aload_n C dX11_amend_59 rfl 1 rfl ?_
    refine g_iload_n C dX11_amend_60 rfl 2 rfl ?_
    refine gr_callVf C [.int y16] rfl (k_X11_isVersion l D T m0 a y16 r20 q18) (w0_V 1 C.2.2.2.2.1 kw_1954 kw_1956 ks_51 kw_9 kw_1957 rfl rfl (by decide +kernel) ⟨by decide, by decide⟩) rfl (Nat.le_of_ble_eq_true rfl) (Nat.zero_le _) (Nat.zero_le _) dX11_amend_61 ?_
    refine g_if_ne (tgt := 73) C dX11_amend_64 (by decide) (fun z21 => ?_) (fun z21 => ?_)
    · replace h := h.1 z21
      refine g_aload_n C dX11_amend_73 rfl 1 rfl ?_
      refine gr_get C iwx_X11 11 (hw kw_1820) (by decide) rfl rfl dX11_amend_74 ?_
      refine g_if_ne (tgt := 88) C dX11_amend_77 (by decide) (fun z22 => ?_) (fun z22 => ?_)
      · replace h := h.1 z22
        refine g_bipush (v := -100) C dX11_amend_88 (by decide) ?_
        refine g_aload_n C dX11_amend_90 rfl 1 rfl ?_
        refine gr_get C iwx_X11 10 (hw kw_1819) (by decide) rfl rfl dX11_amend_91 ?_
        refine g_isub C dX11_amend_94 ?_
        exact gr_iret C hr dX11_amend_95 h
      · replace h := h.2 z22
        refine g_aload_n C dX11_amend_80 rfl 1 rfl ?_
        refine gr_get C iwx_X11 10 (hw kw_1819) (by decide) rfl rfl dX11_amend_81 ?_
        refine g_iload_n C dX11_amend_84 rfl 0 rfl ?_
        refine g_icmp_ge (tgt := 96) C dX11_amend_85 (by decide) (fun z23 => ?_) (fun z23 => ?_)
        · replace h := h.1 z23
          refine g_iconst (v := 0) C dX11_amend_96 (by decide) ?_
          refine g_istore (lv' := [(4, .int 0), (3, .int v19), (0, .ref m0), (1, .int y16)]) C dX11_amend_97 (by decide) rfl ?_
          refine g_locals [2, 3, 0] rfl ?_
          obtain ⟨k57, h⟩ := h
          refine t_X11_amend_99 C hr _ P ?_ k57 y16 0 r20 q18 h
          · intro y29 r30 q31 h
            refine g_iconst (v := 0) C dX11_amend_127 (by decide) ?_
            refine g_istore (lv' := [(4, .int 0), (0, .ref m0), (1, .int y29)]) C dX11_amend_128 (by decide) rfl ?_
            refine g_locals [1, 2, 0] rfl ?_
            obtain ⟨k56, h⟩ := h
            refine t_X11_amend_130 C hr _ P ?_ k56 y29 0 r30 q31 h
            · intro y43 r44 q45 h
              refine g_aload_n C dX11_amend_152 rfl 0 rfl ?_
              refine g_iload C dX11_amend_153 1 rfl ?_
              refine gr_put_12 C iwx_X11 (hw kw_1821) dX11_amend_155 ?_
              refine gr_nr (fun r46 er46 => ?_)
              replace h := h r46 er46
              refine g_iconst (v := 0) C dX11_amend_158 (by decide) ?_
              refine g_istore (lv' := [(5, .int 0), (0, .ref m0), (4, .int y43)]) C dX11_amend_159 (by decide) rfl ?_
              refine g_locals [1, 0] rfl ?_
              obtain ⟨k55, h⟩ := h
              refine t_X11_amend_161 C hr  P  k55 0 r46 q45 h
        · replace h := h.2 z23
          refine g_bipush (v := -100) C dX11_amend_88 (by decide) ?_
          refine g_aload_n C dX11_amend_90 rfl 1 rfl ?_
          refine gr_get C iwx_X11 10 (hw kw_1819) (by decide) rfl rfl dX11_amend_91 ?_
          refine g_isub C dX11_amend_94 ?_
          exact gr_iret C hr dX11_amend_95 h
    · replace h := h.2 z21
      refine g_aload_n C dX11_amend_67 rfl 1 rfl ?_
      refine g_iconst (v := 1) C dX11_amend_68 (by decide) ?_
      refine gr_calliV C [.int 1] rfl (k_X11_refuse l D T m0 a 1 r20 q18) (w0_V 1 C.2.2.2.2.1 kw_1950 kw_1952 ks_50 kw_9 kw_1953 rfl rfl (by decide +kernel) ⟨by decide, by decide⟩) rfl (Nat.le_of_ble_eq_true rfl) (Nat.zero_le _) (Nat.zero_le _) dX11_amend_69 (fun v58 r59 q60 hp => ?_)
      replace h := h v58 r59 q60 hp
      exact gr_iret C hr dX11_amend_72 h
theorem c_X11_amend (l : Launch) (D : va_G) (T : Nat → ClassId) (m0 : Nat) (a : Nat → Nat) (p0 : Int32) (r : Nat → Int32) (q : Nat → Nat → Int32) (P : Int32 → RST → Prop) (h : wp_X11_amend P p0 r q) : RMi l yX11_amend (ws_X11_amend) rm_X11_amend D T m0 a [.ref m0, .int p0] r q P := gr_meti (by decide) rfl rfl (Nat.le_of_ble_eq_true rfl) (fun p e s m args below meth c A C hr => t_X11_amend C hr P p0 r q h)
def wb_X11_layMerged_12 (rec : Int32 → Int32 → (Nat → Int32) → (Nat → Nat → Int32) → Prop) (K58 : (Nat → Int32) → (Nat → Nat → Int32) → Prop) (P : RST → Prop) (x1 : Int32) (x2 : Int32) (r : Nat → Int32) (q : Nat → Nat → Int32) : Prop := vp_in 1 3334 ∧ (((q 0 (Int32.toNatClampNeg 1)) ≤ x2 → (K58 r q)) ∧ (¬ (q 0 (Int32.toNatClampNeg 1)) ≤ x2 → (((hasF x1 x2) = 0 → (∀ v9 : Int32, v9 = x2 + 1 → (rec x1 v9 r q))) ∧ (¬ (hasF x1 x2) = 0 → (vp_in (r 36) 10 ∧ (∀ q11 : Nat → Nat → Int32, q11 = va_up q 11 (upd (q 11) (Int32.toNatClampNeg (r 36)) (1 <<< (x2 &&& 31))) → (∀ r12 : Nat → Int32, r12 = va_up r 36 ((r 36) + 1) → (∀ v13 : Int32, v13 = x2 + 1 → (rec x1 v13 r12 q11)))))))))
def wp_X11_layMerged_12 (K58 : (Nat → Int32) → (Nat → Nat → Int32) → Prop) (P : RST → Prop) : Nat → Int32 → Int32 → (Nat → Int32) → (Nat → Nat → Int32) → Prop
  | 0 => fun _ _ _ _ => False
  | n + 1 => fun x1 x2 r q => wb_X11_layMerged_12 (wp_X11_layMerged_12 K58 P n) K58 P x1 x2 r q
set_option maxRecDepth 100000 in
set_option maxHeartbeats 4000000 in
theorem t_X11_layMerged_12 {p : Program} {l : Launch} {e : Env} {s : State} {m : MethodId} {args : Array Value} {below : List Frame} {meth : Method} {c : Code} {D : va_G} {A : Nat → Prop} {T : Nat → ClassId} {m0 : Nat} {a : Nat → Nat} (C : GC p s m args meth c cX11_layMerged "FreightRaterModel" (ws_X11_layMerged) 3 D A (zty T)) (hr : meth.sig.returnType = none) (K58 : (Nat → Int32) → (Nat → Nat → Int32) → Prop) (P : RST → Prop) (hK58 : ∀ (r : Nat → Int32) (q : Nat → Nat → Int32), K58 r q → GW p l e rm_X11_layMerged s m args below meth c D A 3 0 0 (MQ below (va_Qv P (RE D T m0 a A) A) args s 0 0 A) (RW m0 a T r q) 0 0 58 [(0, .ref m0)] []) : ∀ (n : Nat) (x1 : Int32) (x2 : Int32) (r : Nat → Int32) (q : Nat → Nat → Int32), wp_X11_layMerged_12 K58 P n x1 x2 r q → GW p l e rm_X11_layMerged s m args below meth c D A 3 0 0 (MQ below (va_Qv P (RE D T m0 a A) A) args s 0 0 A) (RW m0 a T r q) 0 0 12 [(0, .ref m0), (1, .int x1), (2, .int x2)] [] := by
  have hw : ∀ {w : Cond}, w ∈ W0 → w.before args s = true := fun h => C.2.2.2.2.1 _ (List.mem_cons_of_mem _ h)
  intro n
  induction n with
  | zero => intro x1 x2 r q h; exact h.elim
  | succ n ih =>
    intro x1 x2 r q h
    replace h : wb_X11_layMerged_12 (wp_X11_layMerged_12 K58 P n) K58 P x1 x2 r q := h
    unfold wb_X11_layMerged_12 at h
    refine g_iload_n C dX11_layMerged_12 rfl 2 rfl ?_
    refine g_aload_n C dX11_layMerged_13 rfl 0 rfl ?_
    refine gr_get C iwx_X11 0 (hw kw_1809) (by decide) rfl rfl dX11_layMerged_14 ?_
    refine g_iconst (v := 1) C dX11_layMerged_17 (by decide) ?_
    obtain ⟨g6, h⟩ := h
    refine gr_ald_0 C g6 dX11_layMerged_18 ?_
    refine g_icmp_ge (tgt := 58) C dX11_layMerged_19 (by decide) (fun z7 => ?_) (fun z7 => ?_)
    · replace h := h.1 z7
      refine g_locals [0] rfl ?_
      exact hK58 r q h
    · replace h := h.2 z7
      refine g_iload_n C dX11_layMerged_22 rfl 1 rfl ?_
      refine g_iload_n C dX11_layMerged_23 rfl 2 rfl ?_
      refine gr_callSf C [.int x1, .int x2] rfl (k_X11_has l D T m0 a x1 x2 r q) (w0_S 2 C.2.2.2.2.1 kw_2178 kw_2179 kw_9 kw_2180 rfl rfl (by decide +kernel) ⟨by decide, by decide⟩) rfl (Nat.le_of_ble_eq_true rfl) (Nat.zero_le _) (Nat.zero_le _) dX11_layMerged_24 ?_
      refine g_if_eq (tgt := 52) C dX11_layMerged_27 (by decide) (fun z8 => ?_) (fun z8 => ?_)
      · replace h := h.1 z8
        obtain ⟨v9, ev9⟩ : ∃ y : Int32, y = x2 + 1 := ⟨_, rfl⟩
        replace h := h v9 ev9
        refine g_iinc (v := v9) (lv' := [(2, .int v9), (0, .ref m0), (1, .int x1)]) C dX11_layMerged_52 (j := 2) rfl (by rw [ev9]; rfl) (by decide) rfl ?_
        refine g_goto (tgt := 12) C dX11_layMerged_55 (by decide) ?_
        refine g_locals [1, 2, 0] rfl ?_
        exact ih x1 v9 r q h
      · replace h := h.2 z8
        refine g_aload_n C dX11_layMerged_30 rfl 0 rfl ?_
        refine gr_get C iwx_X11 37 (hw kw_1846) (by decide) rfl rfl dX11_layMerged_31 ?_
        refine g_aload_n C dX11_layMerged_34 rfl 0 rfl ?_
        refine gr_get C iwx_X11 36 (hw kw_1845) (by decide) rfl rfl dX11_layMerged_35 ?_
        refine g_iconst (v := 1) C dX11_layMerged_38 (by decide) ?_
        refine g_iload_n C dX11_layMerged_39 rfl 2 rfl ?_
        refine g_ishl C dX11_layMerged_40 ?_
        obtain ⟨g10, h⟩ := h
        refine gr_ast_11 C g10 dX11_layMerged_41 ?_
        refine gr_nq (fun q11 eq11 => ?_)
        replace h := h q11 eq11
        refine g_aload_n C dX11_layMerged_42 rfl 0 rfl ?_
        refine g_dup C dX11_layMerged_43 rfl ?_
        refine gr_get C iwx_X11 36 (hw kw_1845) (by decide) rfl rfl dX11_layMerged_44 ?_
        refine g_iconst (v := 1) C dX11_layMerged_47 (by decide) ?_
        refine g_iadd C dX11_layMerged_48 ?_
        refine gr_put_36 C iwx_X11 (hw kw_1845) dX11_layMerged_49 ?_
        refine gr_nr (fun r12 er12 => ?_)
        replace h := h r12 er12
        obtain ⟨v13, ev13⟩ : ∃ y : Int32, y = x2 + 1 := ⟨_, rfl⟩
        replace h := h v13 ev13
        refine g_iinc (v := v13) (lv' := [(2, .int v13), (0, .ref m0), (1, .int x1)]) C dX11_layMerged_52 (j := 2) rfl (by rw [ev13]; rfl) (by decide) rfl ?_
        refine g_goto (tgt := 12) C dX11_layMerged_55 (by decide) ?_
        refine g_locals [1, 2, 0] rfl ?_
        exact ih x1 v13 r12 q11 h
def wb_X11_layMerged_58 (rec : (Nat → Int32) → (Nat → Nat → Int32) → Prop) (P : RST → Prop) (r : Nat → Int32) (q : Nat → Nat → Int32) : Prop := (grO r q) ∧ (∀ (v16 : Int32) (r17 : Nat → Int32) (q18 : Nat → Nat → Int32), (q18 = q ∧ v16 = (match (fpF (q 7) (alL (q 11) (iv (r 36)))).2 with | none => 0 | some _ => 1) ∧ kR r r17 [38, 39] ∧ ∀ a b, (fpF (q 7) (alL (q 11) (iv (r 36)))).2 = some (a, b) → a < iv (r 36) ∧ b < iv (r 36) ∧ r17 38 = nI a ∧ r17 39 = nI b) → ((v16 = 0 → (P (r17, q18))) ∧ (¬ v16 = 0 → (vp_in (r17 38) 10 ∧ (vp_in (r17 39) 10 ∧ (vp_in (r17 38) 10 ∧ (∀ q24 : Nat → Nat → Int32, q24 = va_up q18 11 (upd (q18 11) (Int32.toNatClampNeg (r17 38)) ((q18 11 (Int32.toNatClampNeg (r17 38))) ||| (q18 11 (Int32.toNatClampNeg (r17 39))))) → (∀ r25 : Nat → Int32, r25 = va_up r17 36 ((r17 36) - 1) → (vp_in (r25 36) 10 ∧ (vp_in (r25 39) 10 ∧ (∀ q28 : Nat → Nat → Int32, q28 = va_up q24 11 (upd (q24 11) (Int32.toNatClampNeg (r25 39)) (q24 11 (Int32.toNatClampNeg (r25 36)))) → (rec r25 q28))))))))))))
def wp_X11_layMerged_58 (P : RST → Prop) : Nat → (Nat → Int32) → (Nat → Nat → Int32) → Prop
  | 0 => fun _ _ => False
  | n + 1 => fun r q => wb_X11_layMerged_58 (wp_X11_layMerged_58  P n)  P r q
set_option maxRecDepth 100000 in
set_option maxHeartbeats 4000000 in
theorem t_X11_layMerged_58 {p : Program} {l : Launch} {e : Env} {s : State} {m : MethodId} {args : Array Value} {below : List Frame} {meth : Method} {c : Code} {D : va_G} {A : Nat → Prop} {T : Nat → ClassId} {m0 : Nat} {a : Nat → Nat} (C : GC p s m args meth c cX11_layMerged "FreightRaterModel" (ws_X11_layMerged) 3 D A (zty T)) (hr : meth.sig.returnType = none) (P : RST → Prop) : ∀ (n : Nat) (r : Nat → Int32) (q : Nat → Nat → Int32), wp_X11_layMerged_58  P n r q → GW p l e rm_X11_layMerged s m args below meth c D A 3 0 0 (MQ below (va_Qv P (RE D T m0 a A) A) args s 0 0 A) (RW m0 a T r q) 0 0 58 [(0, .ref m0)] [] := by
  have hw : ∀ {w : Cond}, w ∈ W0 → w.before args s = true := fun h => C.2.2.2.2.1 _ (List.mem_cons_of_mem _ h)
  intro n
  induction n with
  | zero => intro r q h; exact h.elim
  | succ n ih =>
    intro r q h
    replace h : wb_X11_layMerged_58 (wp_X11_layMerged_58  P n)  P r q := h
    unfold wb_X11_layMerged_58 at h
    refine g_aload_n C dX11_layMerged_58 rfl 0 rfl ?_
    obtain ⟨g19, h⟩ := h
    refine gr_calliV C [] rfl (k_X11_findsPair l D T m0 a  r q g19) (w0_V 0 C.2.2.2.2.1 kw_2283 kw_2285 ks_102 kw_9 kw_2286 rfl rfl (by decide +kernel) ⟨by decide, by decide⟩) rfl (Nat.le_of_ble_eq_true rfl) (Nat.zero_le _) (Nat.zero_le _) dX11_layMerged_59 (fun v16 r17 q18 hp => ?_)
    replace h := h v16 r17 q18 hp
    refine g_if_eq (tgt := 117) C dX11_layMerged_62 (by decide) (fun z20 => ?_) (fun z20 => ?_)
    · replace h := h.1 z20
      exact gr_vret C hr dX11_layMerged_117 h
    · replace h := h.2 z20
      refine g_aload_n C dX11_layMerged_65 rfl 0 rfl ?_
      refine gr_get C iwx_X11 37 (hw kw_1846) (by decide) rfl rfl dX11_layMerged_66 ?_
      refine g_aload_n C dX11_layMerged_69 rfl 0 rfl ?_
      refine gr_get C iwx_X11 38 (hw kw_1847) (by decide) rfl rfl dX11_layMerged_70 ?_
      refine g_dup2 C dX11_layMerged_73 rfl rfl ?_
      obtain ⟨g21, h⟩ := h
      refine gr_ald_11 C g21 dX11_layMerged_74 ?_
      refine g_aload_n C dX11_layMerged_75 rfl 0 rfl ?_
      refine gr_get C iwx_X11 37 (hw kw_1846) (by decide) rfl rfl dX11_layMerged_76 ?_
      refine g_aload_n C dX11_layMerged_79 rfl 0 rfl ?_
      refine gr_get C iwx_X11 39 (hw kw_1848) (by decide) rfl rfl dX11_layMerged_80 ?_
      obtain ⟨g22, h⟩ := h
      refine gr_ald_11 C g22 dX11_layMerged_83 ?_
      refine g_ior C dX11_layMerged_84 ?_
      obtain ⟨g23, h⟩ := h
      refine gr_ast_11 C g23 dX11_layMerged_85 ?_
      refine gr_nq (fun q24 eq24 => ?_)
      replace h := h q24 eq24
      refine g_aload_n C dX11_layMerged_86 rfl 0 rfl ?_
      refine g_dup C dX11_layMerged_87 rfl ?_
      refine gr_get C iwx_X11 36 (hw kw_1845) (by decide) rfl rfl dX11_layMerged_88 ?_
      refine g_iconst (v := 1) C dX11_layMerged_91 (by decide) ?_
      refine g_isub C dX11_layMerged_92 ?_
      refine gr_put_36 C iwx_X11 (hw kw_1845) dX11_layMerged_93 ?_
      refine gr_nr (fun r25 er25 => ?_)
      replace h := h r25 er25
      refine g_aload_n C dX11_layMerged_96 rfl 0 rfl ?_
      refine gr_get C iwx_X11 37 (hw kw_1846) (by decide) rfl rfl dX11_layMerged_97 ?_
      refine g_aload_n C dX11_layMerged_100 rfl 0 rfl ?_
      refine gr_get C iwx_X11 39 (hw kw_1848) (by decide) rfl rfl dX11_layMerged_101 ?_
      refine g_aload_n C dX11_layMerged_104 rfl 0 rfl ?_
      refine gr_get C iwx_X11 37 (hw kw_1846) (by decide) rfl rfl dX11_layMerged_105 ?_
      refine g_aload_n C dX11_layMerged_108 rfl 0 rfl ?_
      refine gr_get C iwx_X11 36 (hw kw_1845) (by decide) rfl rfl dX11_layMerged_109 ?_
      obtain ⟨g26, h⟩ := h
      refine gr_ald_11 C g26 dX11_layMerged_112 ?_
      obtain ⟨g27, h⟩ := h
      refine gr_ast_11 C g27 dX11_layMerged_113 ?_
      refine gr_nq (fun q28 eq28 => ?_)
      replace h := h q28 eq28
      refine g_goto (tgt := 58) C dX11_layMerged_114 (by decide) ?_
      refine g_locals [0] rfl ?_
      exact ih r25 q28 h
def wp_X11_layMerged (P : RST → Prop) (p0 : Int32) (r : Nat → Int32) (q : Nat → Nat → Int32) : Prop := (WF (q 0) ∧ gok (q 0) p0) ∧ (∀ (r2 : Nat → Int32) (q3 : Nat → Nat → Int32), (kQ q q3 [7] ∧ kR r r2 [7, 17, 18, 19, 20, 21, 22, 23, 24, 25, 26, 27, 28] ∧ ∀ p, 0 < p → sub p (iv p0) → q3 7 p = ttF (q 0) p) → (∀ r5 : Nat → Int32, r5 = va_up r2 36 0 → (∃ k30 : Nat, wp_X11_layMerged_12 (fun (r14 : Nat → Int32) (q15 : Nat → Nat → Int32) => ∃ k29 : Nat, wp_X11_layMerged_58  P k29 r14 q15) P k30 p0 0 r5 q3)))
set_option maxRecDepth 100000 in
set_option maxHeartbeats 4000000 in
theorem t_X11_layMerged {p : Program} {l : Launch} {e : Env} {s : State} {m : MethodId} {args : Array Value} {below : List Frame} {meth : Method} {c : Code} {D : va_G} {A : Nat → Prop} {T : Nat → ClassId} {m0 : Nat} {a : Nat → Nat} (C : GC p s m args meth c cX11_layMerged "FreightRaterModel" (ws_X11_layMerged) 3 D A (zty T)) (hr : meth.sig.returnType = none) (P : RST → Prop) : ∀ (p0 : Int32) (r : Nat → Int32) (q : Nat → Nat → Int32), wp_X11_layMerged P p0 r q → GW p l e rm_X11_layMerged s m args below meth c D A 3 0 0 (MQ below (va_Qv P (RE D T m0 a A) A) args s 0 0 A) (RW m0 a T r q) 0 0 0 [(0, .ref m0), (1, .int p0)] [] := by
  have hw : ∀ {w : Cond}, w ∈ W0 → w.before args s = true := fun h => C.2.2.2.2.1 _ (List.mem_cons_of_mem _ h)
  intro p0 r q h
  unfold wp_X11_layMerged at h
  refine g_aload_n C dX11_layMerged_0 rfl 0 rfl ?_
  refine g_iload_n C dX11_layMerged_1 rfl 1 rfl ?_
  obtain ⟨g4, h⟩ := h
  refine gr_callvV C [.int p0] rfl (k_X11_layTotals l D T m0 a p0 r q g4) (w0_V 1 C.2.2.2.2.1 kw_2259 kw_2261 ks_99 kw_9 kw_2262 rfl rfl (by decide +kernel) ⟨by decide, by decide⟩) rfl (Nat.le_of_ble_eq_true rfl) (Nat.zero_le _) (Nat.zero_le _) dX11_layMerged_2 (fun r2 q3 hp => ?_)
  replace h := h r2 q3 hp
  refine g_aload_n C dX11_layMerged_5 rfl 0 rfl ?_
  refine g_iconst (v := 0) C dX11_layMerged_6 (by decide) ?_
  refine gr_put_36 C iwx_X11 (hw kw_1845) dX11_layMerged_7 ?_
  refine gr_nr (fun r5 er5 => ?_)
  replace h := h r5 er5
  refine g_iconst (v := 0) C dX11_layMerged_10 (by decide) ?_
  refine g_istore_n (lv' := [(2, .int 0), (0, .ref m0), (1, .int p0)]) C dX11_layMerged_11 rfl (by decide) rfl ?_
  refine g_locals [1, 2, 0] rfl ?_
  obtain ⟨k30, h⟩ := h
  refine t_X11_layMerged_12 C hr _ P ?_ k30 p0 0 r5 q3 h
  · intro r14 q15 h
    refine g_locals [0] rfl ?_
    obtain ⟨k29, h⟩ := h
    refine t_X11_layMerged_58 C hr  P  k29 r14 q15 h
theorem c_X11_layMerged (l : Launch) (D : va_G) (T : Nat → ClassId) (m0 : Nat) (a : Nat → Nat) (p0 : Int32) (r : Nat → Int32) (q : Nat → Nat → Int32) (P : RST → Prop) (h : wp_X11_layMerged P p0 r q) : RMv l yX11_layMerged (ws_X11_layMerged) rm_X11_layMerged D T m0 a [.ref m0, .int p0] r q P := gr_metv (by decide) rfl rfl (Nat.le_of_ble_eq_true rfl) (fun p e s m args below meth c A C hr => t_X11_layMerged C hr P p0 r q h)
def wb_X11_merged_74 (rec : Int32 → Int32 → Int32 → Int32 → Int32 → (Nat → Int32) → (Nat → Nat → Int32) → Prop) (P : Int32 → RST → Prop) (x1 : Int32) (x2 : Int32) (x3 : Int32) (x4 : Int32) (x5 : Int32) (r : Nat → Int32) (q : Nat → Nat → Int32) : Prop := ((r 36) ≤ x5 → ((¬ x2 = 0 → ((¬ x2 = 1 → (P x4 (r, q))) ∧ (x2 = 1 → (P (r 36) (r, q))))) ∧ (x2 = 0 → (P x3 (r, q))))) ∧ (¬ (r 36) ≤ x5 → (vp_in x5 10 ∧ (vp_in (q 11 (Int32.toNatClampNeg x5)) 1024 ∧ (∀ v18 : Int32, v18 = (x3 + (q 7 (Int32.toNatClampNeg (q 11 (Int32.toNatClampNeg x5))))) → (vp_in x5 10 ∧ ((gix x1 ∧ ¬ x1 = (0 : Int32)) ∧ (((hasF (q 11 (Int32.toNatClampNeg x5)) (nI (lowN (iv x1)))) = 0 → (∀ v22 : Int32, v22 = x5 + 1 → (rec x1 x2 v18 x4 v22 r q))) ∧ (¬ (hasF (q 11 (Int32.toNatClampNeg x5)) (nI (lowN (iv x1)))) = 0 → (vp_in x5 10 ∧ (∀ v24 : Int32, v24 = (q 11 (Int32.toNatClampNeg x5)) → (∀ v25 : Int32, v25 = x5 + 1 → (rec x1 x2 v18 v24 v25 r q))))))))))))
def wp_X11_merged_74 (P : Int32 → RST → Prop) : Nat → Int32 → Int32 → Int32 → Int32 → Int32 → (Nat → Int32) → (Nat → Nat → Int32) → Prop
  | 0 => fun _ _ _ _ _ _ _ => False
  | n + 1 => fun x1 x2 x3 x4 x5 r q => wb_X11_merged_74 (wp_X11_merged_74  P n)  P x1 x2 x3 x4 x5 r q
set_option maxRecDepth 100000 in
set_option maxHeartbeats 4000000 in
theorem t_X11_merged_74 {p : Program} {l : Launch} {e : Env} {s : State} {m : MethodId} {args : Array Value} {below : List Frame} {meth : Method} {c : Code} {D : va_G} {A : Nat → Prop} {T : Nat → ClassId} {m0 : Nat} {a : Nat → Nat} (C : GC p s m args meth c cX11_merged "FreightRaterModel" (ws_X11_merged) 6 D A (zty T)) (hr : meth.sig.returnType = (some .int)) (P : Int32 → RST → Prop) : ∀ (n : Nat) (x1 : Int32) (x2 : Int32) (x3 : Int32) (x4 : Int32) (x5 : Int32) (r : Nat → Int32) (q : Nat → Nat → Int32), wp_X11_merged_74  P n x1 x2 x3 x4 x5 r q → GW p l e rm_X11_merged s m args below meth c D A 6 0 0 (MQ below (va_Qi P (RE D T m0 a A) A) args s 0 0 A) (RW m0 a T r q) 0 0 74 [(0, .ref m0), (1, .int x1), (2, .int x2), (3, .int x3), (4, .int x4), (5, .int x5)] [] := by
  have hw : ∀ {w : Cond}, w ∈ W0 → w.before args s = true := fun h => C.2.2.2.2.1 _ (List.mem_cons_of_mem _ h)
  intro n
  induction n with
  | zero => intro x1 x2 x3 x4 x5 r q h; exact h.elim
  | succ n ih =>
    intro x1 x2 x3 x4 x5 r q h
    replace h : wb_X11_merged_74 (wp_X11_merged_74  P n)  P x1 x2 x3 x4 x5 r q := h
    unfold wb_X11_merged_74 at h
    refine g_iload C dX11_merged_74 5 rfl ?_
    refine g_aload_n C dX11_merged_76 rfl 0 rfl ?_
    refine gr_get C iwx_X11 36 (hw kw_1845) (by decide) rfl rfl dX11_merged_77 ?_
    refine g_icmp_ge (tgt := 135) C dX11_merged_80 (by decide) (fun z13 => ?_) (fun z13 => ?_)
    · replace h := h.1 z13
      refine g_iload_n C dX11_merged_135 rfl 2 rfl ?_
      refine g_if_ne (tgt := 143) C dX11_merged_136 (by decide) (fun z14 => ?_) (fun z14 => ?_)
      · replace h := h.1 z14
        refine g_iload_n C dX11_merged_143 rfl 2 rfl ?_
        refine g_iconst (v := 1) C dX11_merged_144 (by decide) ?_
        refine g_icmp_ne (tgt := 155) C dX11_merged_145 (by decide) (fun z15 => ?_) (fun z15 => ?_)
        · replace h := h.1 z15
          refine g_iload C dX11_merged_155 4 rfl ?_
          exact gr_iret C hr dX11_merged_157 h
        · replace h := h.2 z15
          refine g_aload_n C dX11_merged_148 rfl 0 rfl ?_
          refine gr_get C iwx_X11 36 (hw kw_1845) (by decide) rfl rfl dX11_merged_149 ?_
          refine g_goto (tgt := 157) C dX11_merged_152 (by decide) ?_
          exact gr_iret C hr dX11_merged_157 h
      · replace h := h.2 z14
        refine g_iload_n C dX11_merged_139 rfl 3 rfl ?_
        refine g_goto (tgt := 157) C dX11_merged_140 (by decide) ?_
        exact gr_iret C hr dX11_merged_157 h
    · replace h := h.2 z13
      refine g_iload_n C dX11_merged_83 rfl 3 rfl ?_
      refine g_aload_n C dX11_merged_84 rfl 0 rfl ?_
      refine gr_get C iwx_X11 31 (hw kw_1840) (by decide) rfl rfl dX11_merged_85 ?_
      refine g_aload_n C dX11_merged_88 rfl 0 rfl ?_
      refine gr_get C iwx_X11 37 (hw kw_1846) (by decide) rfl rfl dX11_merged_89 ?_
      refine g_iload C dX11_merged_92 5 rfl ?_
      obtain ⟨g16, h⟩ := h
      refine gr_ald_11 C g16 dX11_merged_94 ?_
      obtain ⟨g17, h⟩ := h
      refine gr_ald_7 C g17 dX11_merged_95 ?_
      refine g_iadd C dX11_merged_96 ?_
      refine g_topi (fun v18 ev18 => ?_)
      replace h := h v18 ev18
      refine g_istore_n (lv' := [(3, .int v18), (0, .ref m0), (1, .int x1), (2, .int x2), (4, .int x4), (5, .int x5)]) C dX11_merged_97 rfl (by decide) rfl ?_
      refine g_aload_n C dX11_merged_98 rfl 1 rfl ?_
      refine gr_get C iwx_X11 37 (hw kw_1846) (by decide) rfl rfl dX11_merged_99 ?_
      refine g_iload C dX11_merged_102 5 rfl ?_
      obtain ⟨g19, h⟩ := h
      refine gr_ald_11 C g19 dX11_merged_104 ?_
      refine g_iload_n C dX11_merged_105 rfl 2 rfl ?_
      obtain ⟨g20, h⟩ := h
      refine gr_callSf C [.int x1] rfl (k_X11_lowest l D T m0 a x1 r q g20) (w0_S 1 C.2.2.2.2.1 kw_2175 kw_2176 kw_9 kw_2177 rfl rfl (by decide +kernel) ⟨by decide, by decide⟩) rfl (Nat.le_of_ble_eq_true rfl) (Nat.zero_le _) (Nat.zero_le _) dX11_merged_106 ?_
      refine gr_callSf C [.int (q 11 (Int32.toNatClampNeg x5)), .int (nI (lowN (iv x1)))] rfl (k_X11_has l D T m0 a (q 11 (Int32.toNatClampNeg x5)) (nI (lowN (iv x1))) r q) (w0_S 2 C.2.2.2.2.1 kw_2178 kw_2179 kw_9 kw_2180 rfl rfl (by decide +kernel) ⟨by decide, by decide⟩) rfl (Nat.le_of_ble_eq_true rfl) (Nat.zero_le _) (Nat.zero_le _) dX11_merged_109 ?_
      refine g_if_eq (tgt := 125) C dX11_merged_112 (by decide) (fun z21 => ?_) (fun z21 => ?_)
      · replace h := h.1 z21
        refine g_iload C dX11_merged_125 4 rfl ?_
        refine g_istore (lv' := [(4, .int x4), (3, .int v18), (0, .ref m0), (1, .int x1), (2, .int x2), (5, .int x5)]) C dX11_merged_127 (by decide) rfl ?_
        obtain ⟨v22, ev22⟩ : ∃ y : Int32, y = x5 + 1 := ⟨_, rfl⟩
        replace h := h v22 ev22
        refine g_iinc (v := v22) (lv' := [(5, .int v22), (4, .int x4), (3, .int v18), (0, .ref m0), (1, .int x1), (2, .int x2)]) C dX11_merged_129 (j := 5) rfl (by rw [ev22]; rfl) (by decide) rfl ?_
        refine g_goto (tgt := 74) C dX11_merged_132 (by decide) ?_
        refine g_locals [3, 4, 5, 2, 1, 0] rfl ?_
        exact ih x1 x2 v18 x4 v22 r q h
      · replace h := h.2 z21
        refine g_aload_n C dX11_merged_115 rfl 1 rfl ?_
        refine gr_get C iwx_X11 37 (hw kw_1846) (by decide) rfl rfl dX11_merged_116 ?_
        refine g_iload C dX11_merged_119 5 rfl ?_
        obtain ⟨g23, h⟩ := h
        refine gr_ald_11 C g23 dX11_merged_121 ?_
        refine g_goto (tgt := 127) C dX11_merged_122 (by decide) ?_
        refine g_topi (fun v24 ev24 => ?_)
        replace h := h v24 ev24
        refine g_istore (lv' := [(4, .int v24), (3, .int v18), (0, .ref m0), (1, .int x1), (2, .int x2), (5, .int x5)]) C dX11_merged_127 (by decide) rfl ?_
        obtain ⟨v25, ev25⟩ : ∃ y : Int32, y = x5 + 1 := ⟨_, rfl⟩
        replace h := h v25 ev25
        refine g_iinc (v := v25) (lv' := [(5, .int v25), (4, .int v24), (3, .int v18), (0, .ref m0), (1, .int x1), (2, .int x2)]) C dX11_merged_129 (j := 5) rfl (by rw [ev25]; rfl) (by decide) rfl ?_
        refine g_goto (tgt := 74) C dX11_merged_132 (by decide) ?_
        refine g_locals [3, 4, 5, 2, 1, 0] rfl ?_
        exact ih x1 x2 v18 v24 v25 r q h
def wp_X11_merged_32 (P : Int32 → RST → Prop) (x1 : Int32) (x2 : Int32) (r : Nat → Int32) (q : Nat → Nat → Int32) : Prop := (¬ (r 6) = 0 → (((r 6) ≤ 0 → ((WF (q 0) ∧ gok (q 0) x1) ∧ (∀ (r10 : Nat → Int32) (q11 : Nat → Nat → Int32), (lmP r q (iv x1) r10 q11) → (∃ k26 : Nat, wp_X11_merged_74  P k26 x1 x2 0 0 0 r10 q11)))) ∧ (¬ (r 6) ≤ 0 → (P 0 (r, q))))) ∧ ((r 6) = 0 → ((WF (q 0) ∧ gok (q 0) x1) ∧ (∀ (v27 : Int32) (r28 : Nat → Int32) (q29 : Nat → Nat → Int32), (q29 = q ∧ kR r r28 [17, 18, 19, 20, 21, 22, 23, 35] ∧ v27 = (match rfF (q 0) (iv x1) with | none => 0 | some _ => 1) ∧ ∀ s, rfF (q 0) (iv x1) = some s → r28 35 = nI (rsnD (q 0) (2 ^ s)).1 ∧ r28 17 = (rsnD (q 0) (2 ^ s)).2) → ((v27 = 0 → (((r28 6) ≤ 0 → ((WF (q29 0) ∧ gok (q29 0) x1) ∧ (∀ (r34 : Nat → Int32) (q35 : Nat → Nat → Int32), (lmP r28 q29 (iv x1) r34 q35) → (∃ k37 : Nat, wp_X11_merged_74  P k37 x1 x2 0 0 0 r34 q35)))) ∧ (¬ (r28 6) ≤ 0 → (P 0 (r28, q29))))) ∧ (¬ v27 = 0 → (∀ r38 : Nat → Int32, r38 = va_up r28 6 3 → (((r38 6) ≤ 0 → ((WF (q29 0) ∧ gok (q29 0) x1) ∧ (∀ (r41 : Nat → Int32) (q42 : Nat → Nat → Int32), (lmP r38 q29 (iv x1) r41 q42) → (∃ k44 : Nat, wp_X11_merged_74  P k44 x1 x2 0 0 0 r41 q42)))) ∧ (¬ (r38 6) ≤ 0 → (P 0 (r38, q29))))))))))
set_option maxRecDepth 100000 in
set_option maxHeartbeats 4000000 in
theorem t_X11_merged_32 {p : Program} {l : Launch} {e : Env} {s : State} {m : MethodId} {args : Array Value} {below : List Frame} {meth : Method} {c : Code} {D : va_G} {A : Nat → Prop} {T : Nat → ClassId} {m0 : Nat} {a : Nat → Nat} (C : GC p s m args meth c cX11_merged "FreightRaterModel" (ws_X11_merged) 6 D A (zty T)) (hr : meth.sig.returnType = (some .int)) (P : Int32 → RST → Prop) : ∀ (x1 : Int32) (x2 : Int32) (r : Nat → Int32) (q : Nat → Nat → Int32), wp_X11_merged_32  P x1 x2 r q → GW p l e rm_X11_merged s m args below meth c D A 6 0 0 (MQ below (va_Qi P (RE D T m0 a A) A) args s 0 0 A) (RW m0 a T r q) 0 0 32 [(0, .ref m0), (1, .int x1), (2, .int x2)] [] := by
  have hw : ∀ {w : Cond}, w ∈ W0 → w.before args s = true := fun h => C.2.2.2.2.1 _ (List.mem_cons_of_mem _ h)
  intro x1 x2 r q h
  unfold wp_X11_merged_32 at h
  refine g_aload_n C dX11_merged_32 rfl 0 rfl ?_
  refine gr_get C iwx_X11 6 (hw kw_1815) (by decide) rfl rfl dX11_merged_33 ?_
  refine g_if_ne (tgt := 52) C dX11_merged_36 (by decide) (fun z7 => ?_) (fun z7 => ?_)
  · replace h := h.1 z7
    refine g_aload_n C dX11_merged_52 rfl 0 rfl ?_
    refine gr_get C iwx_X11 6 (hw kw_1815) (by decide) rfl rfl dX11_merged_53 ?_
    refine g_if_le (tgt := 61) C dX11_merged_56 (by decide) (fun z8 => ?_) (fun z8 => ?_)
    · replace h := h.1 z8
      refine g_aload_n C dX11_merged_61 rfl 0 rfl ?_
      refine g_iload_n C dX11_merged_62 rfl 1 rfl ?_
      obtain ⟨g12, h⟩ := h
      refine gr_callvV C [.int x1] rfl (k_X11_layMerged l D T m0 a x1 r q g12) (w0_V 1 C.2.2.2.2.1 kw_2279 kw_2281 ks_101 kw_9 kw_2282 rfl rfl (by decide +kernel) ⟨by decide, by decide⟩) rfl (Nat.le_of_ble_eq_true rfl) (Nat.zero_le _) (Nat.zero_le _) dX11_merged_63 (fun r10 q11 hp => ?_)
      replace h := h r10 q11 hp
      refine g_iconst (v := 0) C dX11_merged_66 (by decide) ?_
      refine g_istore_n (lv' := [(3, .int 0), (0, .ref m0), (1, .int x1), (2, .int x2)]) C dX11_merged_67 rfl (by decide) rfl ?_
      refine g_iconst (v := 0) C dX11_merged_68 (by decide) ?_
      refine g_istore (lv' := [(4, .int 0), (3, .int 0), (0, .ref m0), (1, .int x1), (2, .int x2)]) C dX11_merged_69 (by decide) rfl ?_
      refine g_iconst (v := 0) C dX11_merged_71 (by decide) ?_
      refine g_istore (lv' := [(5, .int 0), (4, .int 0), (3, .int 0), (0, .ref m0), (1, .int x1), (2, .int x2)]) C dX11_merged_72 (by decide) rfl ?_
      refine g_locals [3, 4, 5, 2, 1, 0] rfl ?_
      obtain ⟨k26, h⟩ := h
      refine t_X11_merged_74 C hr  P  k26 x1 x2 0 0 0 r10 q11 h
    · replace h := h.2 z8
      refine g_iconst (v := 0) C dX11_merged_59 (by decide) ?_
      exact gr_iret C hr dX11_merged_60 h
  · replace h := h.2 z7
    refine g_aload_n C dX11_merged_39 rfl 0 rfl ?_
    refine g_iload_n C dX11_merged_40 rfl 1 rfl ?_
    obtain ⟨g30, h⟩ := h
    refine gr_calliV C [.int x1] rfl (k_X11_hasRefused l D T m0 a x1 r q g30) (w0_V 1 C.2.2.2.2.1 kw_2251 kw_2253 ks_97 kw_9 kw_2254 rfl rfl (by decide +kernel) ⟨by decide, by decide⟩) rfl (Nat.le_of_ble_eq_true rfl) (Nat.zero_le _) (Nat.zero_le _) dX11_merged_41 (fun v27 r28 q29 hp => ?_)
    replace h := h v27 r28 q29 hp
    refine g_if_eq (tgt := 52) C dX11_merged_44 (by decide) (fun z31 => ?_) (fun z31 => ?_)
    · replace h := h.1 z31
      refine g_aload_n C dX11_merged_52 rfl 0 rfl ?_
      refine gr_get C iwx_X11 6 (hw kw_1815) (by decide) rfl rfl dX11_merged_53 ?_
      refine g_if_le (tgt := 61) C dX11_merged_56 (by decide) (fun z32 => ?_) (fun z32 => ?_)
      · replace h := h.1 z32
        refine g_aload_n C dX11_merged_61 rfl 0 rfl ?_
        refine g_iload_n C dX11_merged_62 rfl 1 rfl ?_
        obtain ⟨g36, h⟩ := h
        refine gr_callvV C [.int x1] rfl (k_X11_layMerged l D T m0 a x1 r28 q29 g36) (w0_V 1 C.2.2.2.2.1 kw_2279 kw_2281 ks_101 kw_9 kw_2282 rfl rfl (by decide +kernel) ⟨by decide, by decide⟩) rfl (Nat.le_of_ble_eq_true rfl) (Nat.zero_le _) (Nat.zero_le _) dX11_merged_63 (fun r34 q35 hp => ?_)
        replace h := h r34 q35 hp
        refine g_iconst (v := 0) C dX11_merged_66 (by decide) ?_
        refine g_istore_n (lv' := [(3, .int 0), (0, .ref m0), (1, .int x1), (2, .int x2)]) C dX11_merged_67 rfl (by decide) rfl ?_
        refine g_iconst (v := 0) C dX11_merged_68 (by decide) ?_
        refine g_istore (lv' := [(4, .int 0), (3, .int 0), (0, .ref m0), (1, .int x1), (2, .int x2)]) C dX11_merged_69 (by decide) rfl ?_
        refine g_iconst (v := 0) C dX11_merged_71 (by decide) ?_
        refine g_istore (lv' := [(5, .int 0), (4, .int 0), (3, .int 0), (0, .ref m0), (1, .int x1), (2, .int x2)]) C dX11_merged_72 (by decide) rfl ?_
        refine g_locals [3, 4, 5, 2, 1, 0] rfl ?_
        obtain ⟨k37, h⟩ := h
        refine t_X11_merged_74 C hr  P  k37 x1 x2 0 0 0 r34 q35 h
      · replace h := h.2 z32
        refine g_iconst (v := 0) C dX11_merged_59 (by decide) ?_
        exact gr_iret C hr dX11_merged_60 h
    · replace h := h.2 z31
      refine g_aload_n C dX11_merged_47 rfl 0 rfl ?_
      refine g_iconst (v := 3) C dX11_merged_48 (by decide) ?_
      refine gr_put_6 C iwx_X11 (hw kw_1815) dX11_merged_49 ?_
      refine gr_nr (fun r38 er38 => ?_)
      replace h := h r38 er38
      refine g_aload_n C dX11_merged_52 rfl 0 rfl ?_
      refine gr_get C iwx_X11 6 (hw kw_1815) (by decide) rfl rfl dX11_merged_53 ?_
      refine g_if_le (tgt := 61) C dX11_merged_56 (by decide) (fun z39 => ?_) (fun z39 => ?_)
      · replace h := h.1 z39
        refine g_aload_n C dX11_merged_61 rfl 0 rfl ?_
        refine g_iload_n C dX11_merged_62 rfl 1 rfl ?_
        obtain ⟨g43, h⟩ := h
        refine gr_callvV C [.int x1] rfl (k_X11_layMerged l D T m0 a x1 r38 q29 g43) (w0_V 1 C.2.2.2.2.1 kw_2279 kw_2281 ks_101 kw_9 kw_2282 rfl rfl (by decide +kernel) ⟨by decide, by decide⟩) rfl (Nat.le_of_ble_eq_true rfl) (Nat.zero_le _) (Nat.zero_le _) dX11_merged_63 (fun r41 q42 hp => ?_)
        replace h := h r41 q42 hp
        refine g_iconst (v := 0) C dX11_merged_66 (by decide) ?_
        refine g_istore_n (lv' := [(3, .int 0), (0, .ref m0), (1, .int x1), (2, .int x2)]) C dX11_merged_67 rfl (by decide) rfl ?_
        refine g_iconst (v := 0) C dX11_merged_68 (by decide) ?_
        refine g_istore (lv' := [(4, .int 0), (3, .int 0), (0, .ref m0), (1, .int x1), (2, .int x2)]) C dX11_merged_69 (by decide) rfl ?_
        refine g_iconst (v := 0) C dX11_merged_71 (by decide) ?_
        refine g_istore (lv' := [(5, .int 0), (4, .int 0), (3, .int 0), (0, .ref m0), (1, .int x1), (2, .int x2)]) C dX11_merged_72 (by decide) rfl ?_
        refine g_locals [3, 4, 5, 2, 1, 0] rfl ?_
        obtain ⟨k44, h⟩ := h
        refine t_X11_merged_74 C hr  P  k44 x1 x2 0 0 0 r41 q42 h
      · replace h := h.2 z39
        refine g_iconst (v := 0) C dX11_merged_59 (by decide) ?_
        exact gr_iret C hr dX11_merged_60 h
def wp_X11_merged (P : Int32 → RST → Prop) (p0 : Int32) (p1 : Int32) (r : Nat → Int32) (q : Nat → Nat → Int32) : Prop := (WF (q 0) ∧ rix 8) ∧ (∀ (v1 : Int32) (r2 : Nat → Int32) (q3 : Nat → Nat → Int32), (v1 = lckF (q 0) p0 (iv 8) ∧ r2 = va_up r 35 0 ∧ q3 = q) → (∀ r5 : Nat → Int32, r5 = va_up r2 6 v1 → ((¬ (r5 6) = 0 → (wp_X11_merged_32  P p0 p1 r5 q3)) ∧ ((r5 6) = 0 → ((¬ (zin p1 0 2) = 0 → (wp_X11_merged_32  P p0 p1 r5 q3)) ∧ ((zin p1 0 2) = 0 → (∀ r46 : Nat → Int32, r46 = va_up r5 6 2 → (wp_X11_merged_32  P p0 p1 r46 q3))))))))
set_option maxRecDepth 100000 in
set_option maxHeartbeats 4000000 in
theorem t_X11_merged {p : Program} {l : Launch} {e : Env} {s : State} {m : MethodId} {args : Array Value} {below : List Frame} {meth : Method} {c : Code} {D : va_G} {A : Nat → Prop} {T : Nat → ClassId} {m0 : Nat} {a : Nat → Nat} (C : GC p s m args meth c cX11_merged "FreightRaterModel" (ws_X11_merged) 6 D A (zty T)) (hr : meth.sig.returnType = (some .int)) (P : Int32 → RST → Prop) : ∀ (p0 : Int32) (p1 : Int32) (r : Nat → Int32) (q : Nat → Nat → Int32), wp_X11_merged P p0 p1 r q → GW p l e rm_X11_merged s m args below meth c D A 6 0 0 (MQ below (va_Qi P (RE D T m0 a A) A) args s 0 0 A) (RW m0 a T r q) 0 0 0 [(0, .ref m0), (1, .int p0), (2, .int p1)] [] := by
  have hw : ∀ {w : Cond}, w ∈ W0 → w.before args s = true := fun h => C.2.2.2.2.1 _ (List.mem_cons_of_mem _ h)
  intro p0 p1 r q h
  unfold wp_X11_merged at h
  refine g_aload_n C dX11_merged_0 rfl 0 rfl ?_
  refine g_aload_n C dX11_merged_1 rfl 0 rfl ?_
  refine g_iload_n C dX11_merged_2 rfl 1 rfl ?_
  refine g_bipush (v := 8) C dX11_merged_3 (by decide) ?_
  obtain ⟨g4, h⟩ := h
  refine gr_calliV C [.int p0, .int 8] rfl (k_X11_lacks l D T m0 a p0 8 r q g4) (w0_V 2 C.2.2.2.2.1 kw_2247 kw_2249 ks_96 kw_9 kw_2250 rfl rfl (by decide +kernel) ⟨by decide, by decide⟩) rfl (Nat.le_of_ble_eq_true rfl) (Nat.zero_le _) (Nat.zero_le _) dX11_merged_5 (fun v1 r2 q3 hp => ?_)
  replace h := h v1 r2 q3 hp
  refine gr_put_6 C iwx_X11 (hw kw_1815) dX11_merged_8 ?_
  refine gr_nr (fun r5 er5 => ?_)
  replace h := h r5 er5
  refine g_aload_n C dX11_merged_11 rfl 0 rfl ?_
  refine gr_get C iwx_X11 6 (hw kw_1815) (by decide) rfl rfl dX11_merged_12 ?_
  refine g_if_ne (tgt := 32) C dX11_merged_15 (by decide) (fun z6 => ?_) (fun z6 => ?_)
  · replace h := h.1 z6
    refine g_locals [0, 1, 2] rfl ?_
    refine t_X11_merged_32 C hr  P  p0 p1 r5 q3 h
  · replace h := h.2 z6
    refine g_iload_n C dX11_merged_18 rfl 2 rfl ?_
    refine g_iconst (v := 0) C dX11_merged_19 (by decide) ?_
    refine g_iconst (v := 2) C dX11_merged_20 (by decide) ?_
    refine gr_callSf C [.int p1, .int 0, .int 2] rfl (k_X11_in l D T m0 a p1 0 2 r5 q3) (w0_S 3 C.2.2.2.2.1 kw_1944 kw_1945 kw_9 kw_1946 rfl rfl (by decide +kernel) ⟨by decide, by decide⟩) rfl (Nat.le_of_ble_eq_true rfl) (Nat.zero_le _) (Nat.zero_le _) dX11_merged_21 ?_
    refine g_if_ne (tgt := 32) C dX11_merged_24 (by decide) (fun z45 => ?_) (fun z45 => ?_)
    · replace h := h.1 z45
      refine g_locals [0, 1, 2] rfl ?_
      refine t_X11_merged_32 C hr  P  p0 p1 r5 q3 h
    · replace h := h.2 z45
      refine g_aload_n C dX11_merged_27 rfl 0 rfl ?_
      refine g_iconst (v := 2) C dX11_merged_28 (by decide) ?_
      refine gr_put_6 C iwx_X11 (hw kw_1815) dX11_merged_29 ?_
      refine gr_nr (fun r46 er46 => ?_)
      replace h := h r46 er46
      refine g_locals [0, 1, 2] rfl ?_
      refine t_X11_merged_32 C hr  P  p0 p1 r46 q3 h
theorem c_X11_merged (l : Launch) (D : va_G) (T : Nat → ClassId) (m0 : Nat) (a : Nat → Nat) (p0 : Int32) (p1 : Int32) (r : Nat → Int32) (q : Nat → Nat → Int32) (P : Int32 → RST → Prop) (h : wp_X11_merged P p0 p1 r q) : RMi l yX11_merged (ws_X11_merged) rm_X11_merged D T m0 a [.ref m0, .int p0, .int p1] r q P := gr_meti (by decide) rfl rfl (Nat.le_of_ble_eq_true rfl) (fun p e s m args below meth c A C hr => t_X11_merged C hr P p0 p1 r q h)
def wb_X11_post_74 (rec : Int32 → Int32 → (Nat → Int32) → (Nat → Nat → Int32) → Prop) (P : Int32 → RST → Prop) (x1 : Int32) (x2 : Int32) (r : Nat → Int32) (q : Nat → Nat → Int32) : Prop := (x2 = 0 → (vp_in x1 1024 ∧ (P (q 8 (Int32.toNatClampNeg x1)) (r, q)))) ∧ (¬ x2 = 0 → (vp_in x2 1024 ∧ (∀ (r25 : Nat → Int32) (q26 : Nat → Nat → Int32), True → (vp_in 3 3334 ∧ (vp_in 3 3334 ∧ (∀ q29 : Nat → Nat → Int32, q29 = va_up q26 0 (upd (q26 0) (Int32.toNatClampNeg 3) ((q26 0 (Int32.toNatClampNeg 3)) + 1)) → (vp_in x2 1024 ∧ (∀ v31 : Int32, v31 = (x2 &&& ((q29 10 (Int32.toNatClampNeg x2)) ^^^ (-1))) → (rec x1 v31 r25 q29)))))))))
def wp_X11_post_74 (P : Int32 → RST → Prop) : Nat → Int32 → Int32 → (Nat → Int32) → (Nat → Nat → Int32) → Prop
  | 0 => fun _ _ _ _ => False
  | n + 1 => fun x1 x2 r q => wb_X11_post_74 (wp_X11_post_74  P n)  P x1 x2 r q
set_option maxRecDepth 100000 in
set_option maxHeartbeats 4000000 in
theorem t_X11_post_74 {p : Program} {l : Launch} {e : Env} {s : State} {m : MethodId} {args : Array Value} {below : List Frame} {meth : Method} {c : Code} {D : va_G} {A : Nat → Prop} {T : Nat → ClassId} {m0 : Nat} {a : Nat → Nat} (C : GC p s m args meth c cX11_post "FreightRaterModel" (ws_X11_post) 3 D A (zty T)) (hr : meth.sig.returnType = (some .int)) (P : Int32 → RST → Prop) : ∀ (n : Nat) (x1 : Int32) (x2 : Int32) (r : Nat → Int32) (q : Nat → Nat → Int32), wp_X11_post_74  P n x1 x2 r q → GW p l e rm_X11_post s m args below meth c D A 3 0 0 (MQ below (va_Qi P (RE D T m0 a A) A) args s 0 0 A) (RW m0 a T r q) 0 0 74 [(0, .ref m0), (1, .int x1), (2, .int x2)] [] := by
  have hw : ∀ {w : Cond}, w ∈ W0 → w.before args s = true := fun h => C.2.2.2.2.1 _ (List.mem_cons_of_mem _ h)
  intro n
  induction n with
  | zero => intro x1 x2 r q h; exact h.elim
  | succ n ih =>
    intro x1 x2 r q h
    replace h : wb_X11_post_74 (wp_X11_post_74  P n)  P x1 x2 r q := h
    unfold wb_X11_post_74 at h
    refine g_iload_n C dX11_post_74 rfl 2 rfl ?_
    refine g_if_eq (tgt := 112) C dX11_post_75 (by decide) (fun z21 => ?_) (fun z21 => ?_)
    · replace h := h.1 z21
      refine g_aload_n C dX11_post_112 rfl 0 rfl ?_
      refine gr_get C iwx_X11 32 (hw kw_1841) (by decide) rfl rfl dX11_post_113 ?_
      refine g_iload_n C dX11_post_116 rfl 1 rfl ?_
      obtain ⟨g22, h⟩ := h
      refine gr_ald_8 C g22 dX11_post_117 ?_
      exact gr_iret C hr dX11_post_118 h
    · replace h := h.2 z21
      refine g_aload_n C dX11_post_78 rfl 0 rfl ?_
      refine g_aload_n C dX11_post_79 rfl 0 rfl ?_
      refine gr_get C iwx_X11 34 (hw kw_1843) (by decide) rfl rfl dX11_post_80 ?_
      refine g_iload_n C dX11_post_83 rfl 2 rfl ?_
      obtain ⟨g23, h⟩ := h
      refine gr_ald_10 C g23 dX11_post_84 ?_
      refine gr_callvV C [.int (q 10 (Int32.toNatClampNeg x2))] rfl (k_X11_shares l D T m0 a (q 10 (Int32.toNatClampNeg x2)) r q) (w0_V 1 C.2.2.2.2.1 kw_2295 kw_2297 ks_104 kw_9 kw_2298 rfl rfl (by decide +kernel) ⟨by decide, by decide⟩) rfl (Nat.le_of_ble_eq_true rfl) (Nat.zero_le _) (Nat.zero_le _) dX11_post_85 (fun r25 q26 hp => ?_)
      replace h := h r25 q26 hp
      refine g_aload_n C dX11_post_88 rfl 0 rfl ?_
      refine gr_get C iwx_X11 0 (hw kw_1809) (by decide) rfl rfl dX11_post_89 ?_
      refine g_iconst (v := 3) C dX11_post_92 (by decide) ?_
      refine g_dup2 C dX11_post_93 rfl rfl ?_
      obtain ⟨g27, h⟩ := h
      refine gr_ald_0 C g27 dX11_post_94 ?_
      refine g_iconst (v := 1) C dX11_post_95 (by decide) ?_
      refine g_iadd C dX11_post_96 ?_
      obtain ⟨g28, h⟩ := h
      refine gr_ast_0 C g28 dX11_post_97 ?_
      refine gr_nq (fun q29 eq29 => ?_)
      replace h := h q29 eq29
      refine g_iload_n C dX11_post_98 rfl 2 rfl ?_
      refine g_aload_n C dX11_post_99 rfl 0 rfl ?_
      refine gr_get C iwx_X11 34 (hw kw_1843) (by decide) rfl rfl dX11_post_100 ?_
      refine g_iload_n C dX11_post_103 rfl 2 rfl ?_
      obtain ⟨g30, h⟩ := h
      refine gr_ald_10 C g30 dX11_post_104 ?_
      refine g_iconst (v := -1) C dX11_post_105 (by decide) ?_
      refine g_ixor C dX11_post_106 ?_
      refine g_iand C dX11_post_107 ?_
      refine g_topi (fun v31 ev31 => ?_)
      replace h := h v31 ev31
      refine g_istore_n (lv' := [(2, .int v31), (0, .ref m0), (1, .int x1)]) C dX11_post_108 rfl (by decide) rfl ?_
      refine g_goto (tgt := 74) C dX11_post_109 (by decide) ?_
      refine g_locals [1, 2, 0] rfl ?_
      exact ih x1 v31 r25 q29 h
def wp_X11_post (P : Int32 → RST → Prop) (p0 : Int32) (r : Nat → Int32) (q : Nat → Nat → Int32) : Prop := (WF (q 0) ∧ rix 8) ∧ (∀ (v1 : Int32) (r2 : Nat → Int32) (q3 : Nat → Nat → Int32), (v1 = lckF (q 0) p0 (iv 8) ∧ r2 = va_up r 35 0 ∧ q3 = q) → (∀ r5 : Nat → Int32, r5 = va_up r2 6 v1 → ((¬ (r5 6) = 0 → (((r5 6) ≤ 0 → ((WF (q3 0) ∧ gok (q3 0) p0) ∧ (∀ (v8 : Int32) (r9 : Nat → Int32) (q10 : Nat → Nat → Int32), (q10 = q3 ∧ kR r5 r9 [17, 18, 19, 20, 21, 22, 23, 35] ∧ v8 = (match rfF (q3 0) (iv p0) with | none => 0 | some _ => 1) ∧ ∀ s, rfF (q3 0) (iv p0) = some s → r9 35 = nI (rsnD (q3 0) (2 ^ s)).1 ∧ r9 17 = (rsnD (q3 0) (2 ^ s)).2) → ((v8 = 0 → ((CW8 r9) ∧ (∀ (r14 : Nat → Int32) (q15 : Nat → Nat → Int32), (kR r9 r14 [5] ∧ kQ q10 q15 [3] ∧ psh (q10 3) (q15 3) (q10 0) (r9 5) (r14 5)) → ((WF (q15 0) ∧ gok (q15 0) p0 ∧ sgO (q15 0) (iv p0)) ∧ (∀ (r18 : Nat → Int32) (q19 : Nat → Nat → Int32), (lbP r14 q15 (iv p0) r18 q19) → (∃ k32 : Nat, wp_X11_post_74  P k32 p0 p0 r18 q19)))))) ∧ (¬ v8 = 0 → (∀ (v33 : Int32) (r34 : Nat → Int32) (q35 : Nat → Nat → Int32), (v33 = 0 ∧ q35 = q10 ∧ r34 = va_up (va_up (va_up r9 29 (r9 35)) 30 (r9 17)) 6 4) → (P v33 (r34, q35)))))))) ∧ (¬ (r5 6) ≤ 0 → (P 0 (r5, q3))))) ∧ ((r5 6) = 0 → ((WF (q3 0)) ∧ ((((posF (q3 0)) &&& p0) = 0 → (((r5 6) ≤ 0 → ((WF (q3 0) ∧ gok (q3 0) p0) ∧ (∀ (v39 : Int32) (r40 : Nat → Int32) (q41 : Nat → Nat → Int32), (q41 = q3 ∧ kR r5 r40 [17, 18, 19, 20, 21, 22, 23, 35] ∧ v39 = (match rfF (q3 0) (iv p0) with | none => 0 | some _ => 1) ∧ ∀ s, rfF (q3 0) (iv p0) = some s → r40 35 = nI (rsnD (q3 0) (2 ^ s)).1 ∧ r40 17 = (rsnD (q3 0) (2 ^ s)).2) → ((v39 = 0 → ((CW8 r40) ∧ (∀ (r45 : Nat → Int32) (q46 : Nat → Nat → Int32), (kR r40 r45 [5] ∧ kQ q41 q46 [3] ∧ psh (q41 3) (q46 3) (q41 0) (r40 5) (r45 5)) → ((WF (q46 0) ∧ gok (q46 0) p0 ∧ sgO (q46 0) (iv p0)) ∧ (∀ (r49 : Nat → Int32) (q50 : Nat → Nat → Int32), (lbP r45 q46 (iv p0) r49 q50) → (∃ k52 : Nat, wp_X11_post_74  P k52 p0 p0 r49 q50)))))) ∧ (¬ v39 = 0 → (∀ (v53 : Int32) (r54 : Nat → Int32) (q55 : Nat → Nat → Int32), (v53 = 0 ∧ q55 = q41 ∧ r54 = va_up (va_up (va_up r40 29 (r40 35)) 30 (r40 17)) 6 4) → (P v53 (r54, q55)))))))) ∧ (¬ (r5 6) ≤ 0 → (P 0 (r5, q3))))) ∧ (¬ ((posF (q3 0)) &&& p0) = 0 → (∀ r56 : Nat → Int32, r56 = va_up r5 6 3 → (((r56 6) ≤ 0 → ((WF (q3 0) ∧ gok (q3 0) p0) ∧ (∀ (v58 : Int32) (r59 : Nat → Int32) (q60 : Nat → Nat → Int32), (q60 = q3 ∧ kR r56 r59 [17, 18, 19, 20, 21, 22, 23, 35] ∧ v58 = (match rfF (q3 0) (iv p0) with | none => 0 | some _ => 1) ∧ ∀ s, rfF (q3 0) (iv p0) = some s → r59 35 = nI (rsnD (q3 0) (2 ^ s)).1 ∧ r59 17 = (rsnD (q3 0) (2 ^ s)).2) → ((v58 = 0 → ((CW8 r59) ∧ (∀ (r64 : Nat → Int32) (q65 : Nat → Nat → Int32), (kR r59 r64 [5] ∧ kQ q60 q65 [3] ∧ psh (q60 3) (q65 3) (q60 0) (r59 5) (r64 5)) → ((WF (q65 0) ∧ gok (q65 0) p0 ∧ sgO (q65 0) (iv p0)) ∧ (∀ (r68 : Nat → Int32) (q69 : Nat → Nat → Int32), (lbP r64 q65 (iv p0) r68 q69) → (∃ k71 : Nat, wp_X11_post_74  P k71 p0 p0 r68 q69)))))) ∧ (¬ v58 = 0 → (∀ (v72 : Int32) (r73 : Nat → Int32) (q74 : Nat → Nat → Int32), (v72 = 0 ∧ q74 = q60 ∧ r73 = va_up (va_up (va_up r59 29 (r59 35)) 30 (r59 17)) 6 4) → (P v72 (r73, q74)))))))) ∧ (¬ (r56 6) ≤ 0 → (P 0 (r56, q3))))))))))))
set_option maxRecDepth 100000 in
set_option maxHeartbeats 4000000 in
theorem t_X11_post {p : Program} {l : Launch} {e : Env} {s : State} {m : MethodId} {args : Array Value} {below : List Frame} {meth : Method} {c : Code} {D : va_G} {A : Nat → Prop} {T : Nat → ClassId} {m0 : Nat} {a : Nat → Nat} (C : GC p s m args meth c cX11_post "FreightRaterModel" (ws_X11_post) 3 D A (zty T)) (hr : meth.sig.returnType = (some .int)) (P : Int32 → RST → Prop) : ∀ (p0 : Int32) (r : Nat → Int32) (q : Nat → Nat → Int32), wp_X11_post P p0 r q → GW p l e rm_X11_post s m args below meth c D A 3 0 0 (MQ below (va_Qi P (RE D T m0 a A) A) args s 0 0 A) (RW m0 a T r q) 0 0 0 [(0, .ref m0), (1, .int p0)] [] := by
  have hw : ∀ {w : Cond}, w ∈ W0 → w.before args s = true := fun h => C.2.2.2.2.1 _ (List.mem_cons_of_mem _ h)
  intro p0 r q h
  unfold wp_X11_post at h
  refine g_aload_n C dX11_post_0 rfl 0 rfl ?_
  refine g_aload_n C dX11_post_1 rfl 0 rfl ?_
  refine g_iload_n C dX11_post_2 rfl 1 rfl ?_
  refine g_bipush (v := 8) C dX11_post_3 (by decide) ?_
  obtain ⟨g4, h⟩ := h
  refine gr_calliV C [.int p0, .int 8] rfl (k_X11_lacks l D T m0 a p0 8 r q g4) (w0_V 2 C.2.2.2.2.1 kw_2247 kw_2249 ks_96 kw_9 kw_2250 rfl rfl (by decide +kernel) ⟨by decide, by decide⟩) rfl (Nat.le_of_ble_eq_true rfl) (Nat.zero_le _) (Nat.zero_le _) dX11_post_5 (fun v1 r2 q3 hp => ?_)
  replace h := h v1 r2 q3 hp
  refine gr_put_6 C iwx_X11 (hw kw_1815) dX11_post_8 ?_
  refine gr_nr (fun r5 er5 => ?_)
  replace h := h r5 er5
  refine g_aload_n C dX11_post_11 rfl 0 rfl ?_
  refine gr_get C iwx_X11 6 (hw kw_1815) (by decide) rfl rfl dX11_post_12 ?_
  refine g_if_ne (tgt := 32) C dX11_post_15 (by decide) (fun z6 => ?_) (fun z6 => ?_)
  · replace h := h.1 z6
    refine g_aload_n C dX11_post_32 rfl 0 rfl ?_
    refine gr_get C iwx_X11 6 (hw kw_1815) (by decide) rfl rfl dX11_post_33 ?_
    refine g_if_le (tgt := 41) C dX11_post_36 (by decide) (fun z7 => ?_) (fun z7 => ?_)
    · replace h := h.1 z7
      refine g_aload_n C dX11_post_41 rfl 0 rfl ?_
      refine g_iload_n C dX11_post_42 rfl 1 rfl ?_
      obtain ⟨g11, h⟩ := h
      refine gr_calliV C [.int p0] rfl (k_X11_hasRefused l D T m0 a p0 r5 q3 g11) (w0_V 1 C.2.2.2.2.1 kw_2251 kw_2253 ks_97 kw_9 kw_2254 rfl rfl (by decide +kernel) ⟨by decide, by decide⟩) rfl (Nat.le_of_ble_eq_true rfl) (Nat.zero_le _) (Nat.zero_le _) dX11_post_43 (fun v8 r9 q10 hp => ?_)
      replace h := h v8 r9 q10 hp
      refine g_if_eq (tgt := 59) C dX11_post_46 (by decide) (fun z12 => ?_) (fun z12 => ?_)
      · replace h := h.1 z12
        refine g_aload_n C dX11_post_59 rfl 0 rfl ?_
        refine g_aload_n C dX11_post_60 rfl 0 rfl ?_
        refine gr_get C iwx_X11 0 (hw kw_1809) (by decide) rfl rfl dX11_post_61 ?_
        obtain ⟨g16, h⟩ := h
        refine gr_callvV C [.ref (a 0)] rfl (k_X11_keepAs_0 l D T m0 a  r9 q10 g16) (w0_V 1 C.2.2.2.2.1 kw_1958 kw_1960 ks_52 kw_9 kw_1961 rfl rfl (by decide +kernel) ⟨by decide, by decide⟩) rfl (Nat.le_of_ble_eq_true rfl) (Nat.zero_le _) (Nat.zero_le _) dX11_post_64 (fun r14 q15 hp => ?_)
        replace h := h r14 q15 hp
        refine g_aload_n C dX11_post_67 rfl 0 rfl ?_
        refine g_iload_n C dX11_post_68 rfl 1 rfl ?_
        obtain ⟨g20, h⟩ := h
        refine gr_callvV C [.int p0] rfl (k_X11_layBest l D T m0 a p0 r14 q15 g20) (w0_V 1 C.2.2.2.2.1 kw_2255 kw_2257 ks_98 kw_9 kw_2258 rfl rfl (by decide +kernel) ⟨by decide, by decide⟩) rfl (Nat.le_of_ble_eq_true rfl) (Nat.zero_le _) (Nat.zero_le _) dX11_post_69 (fun r18 q19 hp => ?_)
        replace h := h r18 q19 hp
        refine g_iload_n C dX11_post_72 rfl 1 rfl ?_
        refine g_istore_n (lv' := [(2, .int p0), (0, .ref m0), (1, .int p0)]) C dX11_post_73 rfl (by decide) rfl ?_
        refine g_locals [1, 2, 0] rfl ?_
        obtain ⟨k32, h⟩ := h
        refine t_X11_post_74 C hr  P  k32 p0 p0 r18 q19 h
      · replace h := h.2 z12
        refine g_aload_n C dX11_post_49 rfl 0 rfl ?_
        refine g_aload_n C dX11_post_50 rfl 0 rfl ?_
        refine gr_get C iwx_X11 35 (hw kw_1844) (by decide) rfl rfl dX11_post_51 ?_
        refine g_iconst (v := 4) C dX11_post_54 (by decide) ?_
        refine gr_calliV C [.int (r9 35), .int 4] rfl (k_X11_keepsReason l D T m0 a (r9 35) 4 r9 q10) (w0_V 2 C.2.2.2.2.1 kw_2204 kw_2206 ks_92 kw_9 kw_2207 rfl rfl (by decide +kernel) ⟨by decide, by decide⟩) rfl (Nat.le_of_ble_eq_true rfl) (Nat.zero_le _) (Nat.zero_le _) dX11_post_55 (fun v33 r34 q35 hp => ?_)
        replace h := h v33 r34 q35 hp
        exact gr_iret C hr dX11_post_58 h
    · replace h := h.2 z7
      refine g_iconst (v := 0) C dX11_post_39 (by decide) ?_
      exact gr_iret C hr dX11_post_40 h
  · replace h := h.2 z6
    refine g_aload_n C dX11_post_18 rfl 0 rfl ?_
    obtain ⟨g36, h⟩ := h
    refine gr_callVf C [] rfl (k_X11_posted l D T m0 a  r5 q3 g36) (w0_V 0 C.2.2.2.2.1 kw_2291 kw_2293 ks_103 kw_9 kw_2294 rfl rfl (by decide +kernel) ⟨by decide, by decide⟩) rfl (Nat.le_of_ble_eq_true rfl) (Nat.zero_le _) (Nat.zero_le _) dX11_post_19 ?_
    refine g_iload_n C dX11_post_22 rfl 1 rfl ?_
    refine g_iand C dX11_post_23 ?_
    refine g_if_eq (tgt := 32) C dX11_post_24 (by decide) (fun z37 => ?_) (fun z37 => ?_)
    · replace h := h.1 z37
      refine g_aload_n C dX11_post_32 rfl 0 rfl ?_
      refine gr_get C iwx_X11 6 (hw kw_1815) (by decide) rfl rfl dX11_post_33 ?_
      refine g_if_le (tgt := 41) C dX11_post_36 (by decide) (fun z38 => ?_) (fun z38 => ?_)
      · replace h := h.1 z38
        refine g_aload_n C dX11_post_41 rfl 0 rfl ?_
        refine g_iload_n C dX11_post_42 rfl 1 rfl ?_
        obtain ⟨g42, h⟩ := h
        refine gr_calliV C [.int p0] rfl (k_X11_hasRefused l D T m0 a p0 r5 q3 g42) (w0_V 1 C.2.2.2.2.1 kw_2251 kw_2253 ks_97 kw_9 kw_2254 rfl rfl (by decide +kernel) ⟨by decide, by decide⟩) rfl (Nat.le_of_ble_eq_true rfl) (Nat.zero_le _) (Nat.zero_le _) dX11_post_43 (fun v39 r40 q41 hp => ?_)
        replace h := h v39 r40 q41 hp
        refine g_if_eq (tgt := 59) C dX11_post_46 (by decide) (fun z43 => ?_) (fun z43 => ?_)
        · replace h := h.1 z43
          refine g_aload_n C dX11_post_59 rfl 0 rfl ?_
          refine g_aload_n C dX11_post_60 rfl 0 rfl ?_
          refine gr_get C iwx_X11 0 (hw kw_1809) (by decide) rfl rfl dX11_post_61 ?_
          obtain ⟨g47, h⟩ := h
          refine gr_callvV C [.ref (a 0)] rfl (k_X11_keepAs_0 l D T m0 a  r40 q41 g47) (w0_V 1 C.2.2.2.2.1 kw_1958 kw_1960 ks_52 kw_9 kw_1961 rfl rfl (by decide +kernel) ⟨by decide, by decide⟩) rfl (Nat.le_of_ble_eq_true rfl) (Nat.zero_le _) (Nat.zero_le _) dX11_post_64 (fun r45 q46 hp => ?_)
          replace h := h r45 q46 hp
          refine g_aload_n C dX11_post_67 rfl 0 rfl ?_
          refine g_iload_n C dX11_post_68 rfl 1 rfl ?_
          obtain ⟨g51, h⟩ := h
          refine gr_callvV C [.int p0] rfl (k_X11_layBest l D T m0 a p0 r45 q46 g51) (w0_V 1 C.2.2.2.2.1 kw_2255 kw_2257 ks_98 kw_9 kw_2258 rfl rfl (by decide +kernel) ⟨by decide, by decide⟩) rfl (Nat.le_of_ble_eq_true rfl) (Nat.zero_le _) (Nat.zero_le _) dX11_post_69 (fun r49 q50 hp => ?_)
          replace h := h r49 q50 hp
          refine g_iload_n C dX11_post_72 rfl 1 rfl ?_
          refine g_istore_n (lv' := [(2, .int p0), (0, .ref m0), (1, .int p0)]) C dX11_post_73 rfl (by decide) rfl ?_
          refine g_locals [1, 2, 0] rfl ?_
          obtain ⟨k52, h⟩ := h
          refine t_X11_post_74 C hr  P  k52 p0 p0 r49 q50 h
        · replace h := h.2 z43
          refine g_aload_n C dX11_post_49 rfl 0 rfl ?_
          refine g_aload_n C dX11_post_50 rfl 0 rfl ?_
          refine gr_get C iwx_X11 35 (hw kw_1844) (by decide) rfl rfl dX11_post_51 ?_
          refine g_iconst (v := 4) C dX11_post_54 (by decide) ?_
          refine gr_calliV C [.int (r40 35), .int 4] rfl (k_X11_keepsReason l D T m0 a (r40 35) 4 r40 q41) (w0_V 2 C.2.2.2.2.1 kw_2204 kw_2206 ks_92 kw_9 kw_2207 rfl rfl (by decide +kernel) ⟨by decide, by decide⟩) rfl (Nat.le_of_ble_eq_true rfl) (Nat.zero_le _) (Nat.zero_le _) dX11_post_55 (fun v53 r54 q55 hp => ?_)
          replace h := h v53 r54 q55 hp
          exact gr_iret C hr dX11_post_58 h
      · replace h := h.2 z38
        refine g_iconst (v := 0) C dX11_post_39 (by decide) ?_
        exact gr_iret C hr dX11_post_40 h
    · replace h := h.2 z37
      refine g_aload_n C dX11_post_27 rfl 0 rfl ?_
      refine g_iconst (v := 3) C dX11_post_28 (by decide) ?_
      refine gr_put_6 C iwx_X11 (hw kw_1815) dX11_post_29 ?_
      refine gr_nr (fun r56 er56 => ?_)
      replace h := h r56 er56
      refine g_aload_n C dX11_post_32 rfl 0 rfl ?_
      refine gr_get C iwx_X11 6 (hw kw_1815) (by decide) rfl rfl dX11_post_33 ?_
      refine g_if_le (tgt := 41) C dX11_post_36 (by decide) (fun z57 => ?_) (fun z57 => ?_)
      · replace h := h.1 z57
        refine g_aload_n C dX11_post_41 rfl 0 rfl ?_
        refine g_iload_n C dX11_post_42 rfl 1 rfl ?_
        obtain ⟨g61, h⟩ := h
        refine gr_calliV C [.int p0] rfl (k_X11_hasRefused l D T m0 a p0 r56 q3 g61) (w0_V 1 C.2.2.2.2.1 kw_2251 kw_2253 ks_97 kw_9 kw_2254 rfl rfl (by decide +kernel) ⟨by decide, by decide⟩) rfl (Nat.le_of_ble_eq_true rfl) (Nat.zero_le _) (Nat.zero_le _) dX11_post_43 (fun v58 r59 q60 hp => ?_)
        replace h := h v58 r59 q60 hp
        refine g_if_eq (tgt := 59) C dX11_post_46 (by decide) (fun z62 => ?_) (fun z62 => ?_)
        · replace h := h.1 z62
          refine g_aload_n C dX11_post_59 rfl 0 rfl ?_
          refine g_aload_n C dX11_post_60 rfl 0 rfl ?_
          refine gr_get C iwx_X11 0 (hw kw_1809) (by decide) rfl rfl dX11_post_61 ?_
          obtain ⟨g66, h⟩ := h
          refine gr_callvV C [.ref (a 0)] rfl (k_X11_keepAs_0 l D T m0 a  r59 q60 g66) (w0_V 1 C.2.2.2.2.1 kw_1958 kw_1960 ks_52 kw_9 kw_1961 rfl rfl (by decide +kernel) ⟨by decide, by decide⟩) rfl (Nat.le_of_ble_eq_true rfl) (Nat.zero_le _) (Nat.zero_le _) dX11_post_64 (fun r64 q65 hp => ?_)
          replace h := h r64 q65 hp
          refine g_aload_n C dX11_post_67 rfl 0 rfl ?_
          refine g_iload_n C dX11_post_68 rfl 1 rfl ?_
          obtain ⟨g70, h⟩ := h
          refine gr_callvV C [.int p0] rfl (k_X11_layBest l D T m0 a p0 r64 q65 g70) (w0_V 1 C.2.2.2.2.1 kw_2255 kw_2257 ks_98 kw_9 kw_2258 rfl rfl (by decide +kernel) ⟨by decide, by decide⟩) rfl (Nat.le_of_ble_eq_true rfl) (Nat.zero_le _) (Nat.zero_le _) dX11_post_69 (fun r68 q69 hp => ?_)
          replace h := h r68 q69 hp
          refine g_iload_n C dX11_post_72 rfl 1 rfl ?_
          refine g_istore_n (lv' := [(2, .int p0), (0, .ref m0), (1, .int p0)]) C dX11_post_73 rfl (by decide) rfl ?_
          refine g_locals [1, 2, 0] rfl ?_
          obtain ⟨k71, h⟩ := h
          refine t_X11_post_74 C hr  P  k71 p0 p0 r68 q69 h
        · replace h := h.2 z62
          refine g_aload_n C dX11_post_49 rfl 0 rfl ?_
          refine g_aload_n C dX11_post_50 rfl 0 rfl ?_
          refine gr_get C iwx_X11 35 (hw kw_1844) (by decide) rfl rfl dX11_post_51 ?_
          refine g_iconst (v := 4) C dX11_post_54 (by decide) ?_
          refine gr_calliV C [.int (r59 35), .int 4] rfl (k_X11_keepsReason l D T m0 a (r59 35) 4 r59 q60) (w0_V 2 C.2.2.2.2.1 kw_2204 kw_2206 ks_92 kw_9 kw_2207 rfl rfl (by decide +kernel) ⟨by decide, by decide⟩) rfl (Nat.le_of_ble_eq_true rfl) (Nat.zero_le _) (Nat.zero_le _) dX11_post_55 (fun v72 r73 q74 hp => ?_)
          replace h := h v72 r73 q74 hp
          exact gr_iret C hr dX11_post_58 h
      · replace h := h.2 z57
        refine g_iconst (v := 0) C dX11_post_39 (by decide) ?_
        exact gr_iret C hr dX11_post_40 h
theorem c_X11_post (l : Launch) (D : va_G) (T : Nat → ClassId) (m0 : Nat) (a : Nat → Nat) (p0 : Int32) (r : Nat → Int32) (q : Nat → Nat → Int32) (P : Int32 → RST → Prop) (h : wp_X11_post P p0 r q) : RMi l yX11_post (ws_X11_post) rm_X11_post D T m0 a [.ref m0, .int p0] r q P := gr_meti (by decide) rfl rfl (Nat.le_of_ble_eq_true rfl) (fun p e s m args below meth c A C hr => t_X11_post C hr P p0 r q h)
end S_TODO
