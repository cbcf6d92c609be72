section S_RVS
abbrev ws_X11_findsPair : List Cond := Cond.code yX11_findsPair cX11_findsPair 7 (some .boolean) :: W0
abbrev rm_X11_findsPair : Room := ({ frames := 0, cells := 0, slots := 0, locals := 0 } : Room)
def wp_X11_findsPair_172 (K19 : Int32 → Int32 → Int32 → (Nat → Int32) → (Nat → Nat → Int32) → Prop) (P : Int32 → RST → Prop) (x1 : Int32) (x2 : Int32) (x3 : Int32) (x5 : Int32) (s0 : Int32) (r : Nat → Int32) (q : Nat → Nat → Int32) : Prop := (x1 < x5 → (∀ r23 : Nat → Int32, r23 = va_up r 38 x2 → (∀ r24 : Nat → Int32, r24 = va_up r23 39 x3 → (∀ v25 : Int32, v25 = x3 + 1 → (K19 x5 x2 v25 r24 q))))) ∧ (¬ x1 < x5 → ((s0 = 0 → (∀ v27 : Int32, v27 = x3 + 1 → (K19 x1 x2 v27 r q))) ∧ (¬ s0 = 0 → (∀ r28 : Nat → Int32, r28 = va_up r 38 x2 → (∀ r29 : Nat → Int32, r29 = va_up r28 39 x3 → (∀ v30 : Int32, v30 = x3 + 1 → (K19 x5 x2 v30 r29 q)))))))
set_option maxRecDepth 100000 in
set_option maxHeartbeats 4000000 in
theorem t_X11_findsPair_172 {p : Program} {l : Launch} {e : Env} {s : State} {m : MethodId} {args : Array Value} {below : List Frame} {meth : Method} {c : Code} {D : va_G} {A : Nat → Prop} {T : Nat → ClassId} {m0 : Nat} {a : Nat → Nat} (C : GC p s m args meth c cX11_findsPair "FreightRaterModel" (ws_X11_findsPair) 7 D A (zty T)) (hr : meth.sig.returnType = (some .boolean)) (K19 : Int32 → Int32 → Int32 → (Nat → Int32) → (Nat → Nat → Int32) → Prop) (P : Int32 → RST → Prop) (hK19 : ∀ (x1 : Int32) (x2 : Int32) (x3 : Int32) (r : Nat → Int32) (q : Nat → Nat → Int32), K19 x1 x2 x3 r q → GW p l e rm_X11_findsPair s m args below meth c D A 7 0 0 (MQ below (va_Qi P (RE D T m0 a A) A) args s 0 0 A) (RW m0 a T r q) 0 0 19 [(0, .ref m0), (1, .int x1), (2, .int x2), (3, .int x3)] []) : ∀ (x1 : Int32) (x2 : Int32) (x3 : Int32) (x5 : Int32) (s0 : Int32) (r : Nat → Int32) (q : Nat → Nat → Int32), wp_X11_findsPair_172 K19 P x1 x2 x3 x5 s0 r q → GW p l e rm_X11_findsPair s m args below meth c D A 7 0 0 (MQ below (va_Qi P (RE D T m0 a A) A) args s 0 0 A) (RW m0 a T r q) 0 0 172 [(0, .ref m0), (1, .int x1), (2, .int x2), (3, .int x3), (5, .int x5)] [.int s0] := by
  have hw : ∀ {w : Cond}, w ∈ W0 → w.before args s = true := fun h => C.2.2.2.2.1 _ (List.mem_cons_of_mem _ h)
  intro x1 x2 x3 x5 s0 r q h
  unfold wp_X11_findsPair_172 at h
  refine g_istore (lv' := [(6, .int s0), (0, .ref m0), (1, .int x1), (2, .int x2), (3, .int x3), (5, .int x5)]) C dX11_findsPair_172 (by decide) rfl ?_
  refine g_iload C dX11_findsPair_174 5 rfl ?_
  refine g_iload_n C dX11_findsPair_176 rfl 2 rfl ?_
  refine g_icmp_gt (tgt := 185) C dX11_findsPair_177 (by decide) (fun z22 => ?_) (fun z22 => ?_)
  · replace h := h.1 z22
    refine g_iload C dX11_findsPair_185 5 rfl ?_
    refine g_istore_n (lv' := [(1, .int x5), (6, .int s0), (0, .ref m0), (2, .int x2), (3, .int x3), (5, .int x5)]) C dX11_findsPair_187 rfl (by decide) rfl ?_
    refine g_aload_n C dX11_findsPair_188 rfl 2 rfl ?_
    refine g_iload_n C dX11_findsPair_189 rfl 3 rfl ?_
    refine gr_put_38 C iwx_X11 (hw kw_1847) dX11_findsPair_190 ?_
    refine gr_nr (fun r23 er23 => ?_)
    replace h := h r23 er23
    refine g_aload_n C dX11_findsPair_193 rfl 2 rfl ?_
    refine g_iload_n C dX11_findsPair_194 rfl 4 rfl ?_
    refine gr_put_39 C iwx_X11 (hw kw_1848) dX11_findsPair_195 ?_
    refine gr_nr (fun r24 er24 => ?_)
    replace h := h r24 er24
    obtain ⟨v25, ev25⟩ : ∃ y : Int32, y = x3 + 1 := ⟨_, rfl⟩
    replace h := h v25 ev25
    refine g_iinc (v := v25) (lv' := [(3, .int v25), (1, .int x5), (6, .int s0), (0, .ref m0), (2, .int x2), (5, .int x5)]) C dX11_findsPair_198 (j := 4) rfl (by rw [ev25]; rfl) (by decide) rfl ?_
    refine g_goto (tgt := 19) C dX11_findsPair_201 (by decide) ?_
    refine g_locals [3, 1, 4, 0] rfl ?_
    exact hK19 x5 x2 v25 r24 q h
  · replace h := h.2 z22
    refine g_iload C dX11_findsPair_180 0 rfl ?_
    refine g_if_eq (tgt := 198) C dX11_findsPair_182 (by decide) (fun z26 => ?_) (fun z26 => ?_)
    · replace h := h.1 z26
      obtain ⟨v27, ev27⟩ : ∃ y : Int32, y = x3 + 1 := ⟨_, rfl⟩
      replace h := h v27 ev27
      refine g_iinc (v := v27) (lv' := [(3, .int v27), (6, .int s0), (0, .ref m0), (1, .int x1), (2, .int x2), (5, .int x5)]) C dX11_findsPair_198 (j := 4) rfl (by rw [ev27]; rfl) (by decide) rfl ?_
      refine g_goto (tgt := 19) C dX11_findsPair_201 (by decide) ?_
      refine g_locals [2, 3, 4, 0] rfl ?_
      exact hK19 x1 x2 v27 r q h
    · replace h := h.2 z26
      refine g_iload C dX11_findsPair_185 5 rfl ?_
      refine g_istore_n (lv' := [(1, .int x5), (6, .int s0), (0, .ref m0), (2, .int x2), (3, .int x3), (5, .int x5)]) C dX11_findsPair_187 rfl (by decide) rfl ?_
      refine g_aload_n C dX11_findsPair_188 rfl 2 rfl ?_
      refine g_iload_n C dX11_findsPair_189 rfl 3 rfl ?_
      refine gr_put_38 C iwx_X11 (hw kw_1847) dX11_findsPair_190 ?_
      refine gr_nr (fun r28 er28 => ?_)
      replace h := h r28 er28
      refine g_aload_n C dX11_findsPair_193 rfl 2 rfl ?_
      refine g_iload_n C dX11_findsPair_194 rfl 4 rfl ?_
      refine gr_put_39 C iwx_X11 (hw kw_1848) dX11_findsPair_195 ?_
      refine gr_nr (fun r29 er29 => ?_)
      replace h := h r29 er29
      obtain ⟨v30, ev30⟩ : ∃ y : Int32, y = x3 + 1 := ⟨_, rfl⟩
      replace h := h v30 ev30
      refine g_iinc (v := v30) (lv' := [(3, .int v30), (1, .int x5), (6, .int s0), (0, .ref m0), (2, .int x2), (5, .int x5)]) C dX11_findsPair_198 (j := 4) rfl (by rw [ev30]; rfl) (by decide) rfl ?_
      refine g_goto (tgt := 19) C dX11_findsPair_201 (by decide) ?_
      refine g_locals [3, 1, 4, 0] rfl ?_
      exact hK19 x5 x2 v30 r29 q h
def wb_X11_findsPair_19 (rec : Int32 → Int32 → Int32 → (Nat → Int32) → (Nat → Nat → Int32) → Prop) (K204 : Int32 → Int32 → (Nat → Int32) → (Nat → Nat → Int32) → Prop) (P : Int32 → RST → Prop) (x1 : Int32) (x2 : Int32) (x3 : Int32) (r : Nat → Int32) (q : Nat → Nat → Int32) : Prop := ((r 36) ≤ x3 → (K204 x1 x2 r q)) ∧ (¬ (r 36) ≤ x3 → (vp_in x2 10 ∧ (vp_in x3 10 ∧ (∀ v7 : Int32, v7 = ((q 11 (Int32.toNatClampNeg x2)) ||| (q 11 (Int32.toNatClampNeg x3))) → (vp_in x2 10 ∧ (vp_in x3 10 ∧ (((q 11 (Int32.toNatClampNeg x3)) ≤ (q 11 (Int32.toNatClampNeg x2)) → (∀ v11 : Int32, v11 = x3 + 1 → (rec x1 x2 v11 r q))) ∧ (¬ (q 11 (Int32.toNatClampNeg x3)) ≤ (q 11 (Int32.toNatClampNeg x2)) → (vp_in v7 1024 ∧ (((q 7 (Int32.toNatClampNeg v7)) < 0 → (∀ v14 : Int32, v14 = x3 + 1 → (rec x1 x2 v14 r q))) ∧ (¬ (q 7 (Int32.toNatClampNeg v7)) < 0 → (vp_in x2 10 ∧ (vp_in (q 11 (Int32.toNatClampNeg x2)) 1024 ∧ (vp_in x3 10 ∧ (vp_in (q 11 (Int32.toNatClampNeg x3)) 1024 ∧ (vp_in v7 1024 ∧ (∀ v20 : Int32, v20 = (((q 7 (Int32.toNatClampNeg (q 11 (Int32.toNatClampNeg x2)))) + (q 7 (Int32.toNatClampNeg (q 11 (Int32.toNatClampNeg x3))))) - (q 7 (Int32.toNatClampNeg v7))) → (((r 38) < 0 → (wp_X11_findsPair_172 (fun (y31 : Int32) (y32 : Int32) (y33 : Int32) (r34 : Nat → Int32) (q35 : Nat → Nat → Int32) => rec y31 y32 y33 r34 q35) P x1 x2 x3 v20 0 r q)) ∧ (¬ (r 38) < 0 → ((¬ v20 = x1 → (wp_X11_findsPair_172 (fun (y37 : Int32) (y38 : Int32) (y39 : Int32) (r40 : Nat → Int32) (q41 : Nat → Nat → Int32) => rec y37 y38 y39 r40 q41) P x1 x2 x3 v20 0 r q)) ∧ (v20 = x1 → (vp_in x2 10 ∧ (vp_in (r 38) 10 ∧ (((q 11 (Int32.toNatClampNeg x2)) < (q 11 (Int32.toNatClampNeg (r 38))) → (wp_X11_findsPair_172 (fun (y45 : Int32) (y46 : Int32) (y47 : Int32) (r48 : Nat → Int32) (q49 : Nat → Nat → Int32) => rec y45 y46 y47 r48 q49) P x1 x2 x3 v20 1 r q)) ∧ (¬ (q 11 (Int32.toNatClampNeg x2)) < (q 11 (Int32.toNatClampNeg (r 38))) → (vp_in x2 10 ∧ (vp_in (r 38) 10 ∧ ((¬ (q 11 (Int32.toNatClampNeg x2)) = (q 11 (Int32.toNatClampNeg (r 38))) → (wp_X11_findsPair_172 (fun (y53 : Int32) (y54 : Int32) (y55 : Int32) (r56 : Nat → Int32) (q57 : Nat → Nat → Int32) => rec y53 y54 y55 r56 q57) P x1 x2 x3 v20 0 r q)) ∧ ((q 11 (Int32.toNatClampNeg x2)) = (q 11 (Int32.toNatClampNeg (r 38))) → (vp_in x3 10 ∧ (vp_in (r 39) 10 ∧ (((q 11 (Int32.toNatClampNeg (r 39))) ≤ (q 11 (Int32.toNatClampNeg x3)) → (wp_X11_findsPair_172 (fun (y61 : Int32) (y62 : Int32) (y63 : Int32) (r64 : Nat → Int32) (q65 : Nat → Nat → Int32) => rec y61 y62 y63 r64 q65) P x1 x2 x3 v20 0 r q)) ∧ (¬ (q 11 (Int32.toNatClampNeg (r 39))) ≤ (q 11 (Int32.toNatClampNeg x3)) → (wp_X11_findsPair_172 (fun (y66 : Int32) (y67 : Int32) (y68 : Int32) (r69 : Nat → Int32) (q70 : Nat → Nat → Int32) => rec y66 y67 y68 r69 q70) P x1 x2 x3 v20 1 r q))))))))))))))))))))))))))))))))))
def wp_X11_findsPair_19 (K204 : Int32 → Int32 → (Nat → Int32) → (Nat → Nat → Int32) → Prop) (P : Int32 → RST → Prop) : Nat → Int32 → Int32 → Int32 → (Nat → Int32) → (Nat → Nat → Int32) → Prop
  | 0 => fun _ _ _ _ _ => False
  | n + 1 => fun x1 x2 x3 r q => wb_X11_findsPair_19 (wp_X11_findsPair_19 K204 P n) K204 P x1 x2 x3 r q
set_option maxRecDepth 100000 in
set_option maxHeartbeats 4000000 in
theorem t_X11_findsPair_19 {p : Program} {l : Launch} {e : Env} {s : State} {m : MethodId} {args : Array Value} {below : List Frame} {meth : Method} {c : Code} {D : va_G} {A : Nat → Prop} {T : Nat → ClassId} {m0 : Nat} {a : Nat → Nat} (C : GC p s m args meth c cX11_findsPair "FreightRaterModel" (ws_X11_findsPair) 7 D A (zty T)) (hr : meth.sig.returnType = (some .boolean)) (K204 : Int32 → Int32 → (Nat → Int32) → (Nat → Nat → Int32) → Prop) (P : Int32 → RST → Prop) (hK204 : ∀ (x1 : Int32) (x2 : Int32) (r : Nat → Int32) (q : Nat → Nat → Int32), K204 x1 x2 r q → GW p l e rm_X11_findsPair s m args below meth c D A 7 0 0 (MQ below (va_Qi P (RE D T m0 a A) A) args s 0 0 A) (RW m0 a T r q) 0 0 204 [(0, .ref m0), (1, .int x1), (2, .int x2)] []) : ∀ (n : Nat) (x1 : Int32) (x2 : Int32) (x3 : Int32) (r : Nat → Int32) (q : Nat → Nat → Int32), wp_X11_findsPair_19 K204 P n x1 x2 x3 r q → GW p l e rm_X11_findsPair s m args below meth c D A 7 0 0 (MQ below (va_Qi P (RE D T m0 a A) A) args s 0 0 A) (RW m0 a T r q) 0 0 19 [(0, .ref m0), (1, .int x1), (2, .int x2), (3, .int x3)] [] := by
  have hw : ∀ {w : Cond}, w ∈ W0 → w.before args s = true := fun h => C.2.2.2.2.1 _ (List.mem_cons_of_mem _ h)
  intro n
  induction n with
  | zero => intro x1 x2 x3 r q h; exact h.elim
  | succ n ih =>
    intro x1 x2 x3 r q h
    replace h : wb_X11_findsPair_19 (wp_X11_findsPair_19 K204 P n) K204 P x1 x2 x3 r q := h
    unfold wb_X11_findsPair_19 at h
    refine g_iload_n C dX11_findsPair_19 rfl 3 rfl ?_
    refine g_aload_n C dX11_findsPair_20 rfl 0 rfl ?_
    refine gr_get C iwx_X11 36 (hw kw_1845) (by decide) rfl rfl dX11_findsPair_21 ?_
    refine g_icmp_ge (tgt := 204) C dX11_findsPair_24 (by decide) (fun z4 => ?_) (fun z4 => ?_)
    · replace h := h.1 z4
      refine g_locals [0, 1, 2] rfl ?_
      exact hK204 x1 x2 r q h
    · replace h := h.2 z4
      refine g_aload_n C dX11_findsPair_27 rfl 0 rfl ?_
      refine gr_get C iwx_X11 37 (hw kw_1846) (by decide) rfl rfl dX11_findsPair_28 ?_
      refine g_iload_n C dX11_findsPair_31 rfl 2 rfl ?_
      obtain ⟨g5, h⟩ := h
      refine gr_ald_11 C g5 dX11_findsPair_32 ?_
      refine g_aload_n C dX11_findsPair_33 rfl 0 rfl ?_
      refine gr_get C iwx_X11 37 (hw kw_1846) (by decide) rfl rfl dX11_findsPair_34 ?_
      refine g_iload_n C dX11_findsPair_37 rfl 3 rfl ?_
      obtain ⟨g6, h⟩ := h
      refine gr_ald_11 C g6 dX11_findsPair_38 ?_
      refine g_ior C dX11_findsPair_39 ?_
      refine g_topi (fun v7 ev7 => ?_)
      replace h := h v7 ev7
      refine g_istore (lv' := [(4, .int v7), (0, .ref m0), (1, .int x1), (2, .int x2), (3, .int x3)]) C dX11_findsPair_40 (by decide) rfl ?_
      refine g_aload_n C dX11_findsPair_42 rfl 1 rfl ?_
      refine gr_get C iwx_X11 37 (hw kw_1846) (by decide) rfl rfl dX11_findsPair_43 ?_
      refine g_iload_n C dX11_findsPair_46 rfl 3 rfl ?_
      obtain ⟨g8, h⟩ := h
      refine gr_ald_11 C g8 dX11_findsPair_47 ?_
      refine g_aload_n C dX11_findsPair_48 rfl 1 rfl ?_
      refine gr_get C iwx_X11 37 (hw kw_1846) (by decide) rfl rfl dX11_findsPair_49 ?_
      refine g_iload_n C dX11_findsPair_52 rfl 4 rfl ?_
      obtain ⟨g9, h⟩ := h
      refine gr_ald_11 C g9 dX11_findsPair_53 ?_
      refine g_icmp_ge (tgt := 198) C dX11_findsPair_54 (by decide) (fun z10 => ?_) (fun z10 => ?_)
      · replace h := h.1 z10
        obtain ⟨v11, ev11⟩ : ∃ y : Int32, y = x3 + 1 := ⟨_, rfl⟩
        replace h := h v11 ev11
        refine g_iinc (v := v11) (lv' := [(3, .int v11), (4, .int v7), (0, .ref m0), (1, .int x1), (2, .int x2)]) C dX11_findsPair_198 (j := 4) rfl (by rw [ev11]; rfl) (by decide) rfl ?_
        refine g_goto (tgt := 19) C dX11_findsPair_201 (by decide) ?_
        refine g_locals [2, 3, 4, 0] rfl ?_
        exact ih x1 x2 v11 r q h
      · replace h := h.2 z10
        refine g_aload_n C dX11_findsPair_57 rfl 1 rfl ?_
        refine gr_get C iwx_X11 31 (hw kw_1840) (by decide) rfl rfl dX11_findsPair_58 ?_
        refine g_iload C dX11_findsPair_61 0 rfl ?_
        obtain ⟨g12, h⟩ := h
        refine gr_ald_7 C g12 dX11_findsPair_63 ?_
        refine g_if_lt (tgt := 198) C dX11_findsPair_64 (by decide) (fun z13 => ?_) (fun z13 => ?_)
        · replace h := h.1 z13
          obtain ⟨v14, ev14⟩ : ∃ y : Int32, y = x3 + 1 := ⟨_, rfl⟩
          replace h := h v14 ev14
          refine g_iinc (v := v14) (lv' := [(3, .int v14), (4, .int v7), (0, .ref m0), (1, .int x1), (2, .int x2)]) C dX11_findsPair_198 (j := 4) rfl (by rw [ev14]; rfl) (by decide) rfl ?_
          refine g_goto (tgt := 19) C dX11_findsPair_201 (by decide) ?_
          refine g_locals [2, 3, 4, 0] rfl ?_
          exact ih x1 x2 v14 r q h
        · replace h := h.2 z13
          refine g_aload_n C dX11_findsPair_67 rfl 1 rfl ?_
          refine gr_get C iwx_X11 31 (hw kw_1840) (by decide) rfl rfl dX11_findsPair_68 ?_
          refine g_aload_n C dX11_findsPair_71 rfl 1 rfl ?_
          refine gr_get C iwx_X11 37 (hw kw_1846) (by decide) rfl rfl dX11_findsPair_72 ?_
          refine g_iload_n C dX11_findsPair_75 rfl 3 rfl ?_
          obtain ⟨g15, h⟩ := h
          refine gr_ald_11 C g15 dX11_findsPair_76 ?_
          obtain ⟨g16, h⟩ := h
          refine gr_ald_7 C g16 dX11_findsPair_77 ?_
          refine g_aload_n C dX11_findsPair_78 rfl 1 rfl ?_
          refine gr_get C iwx_X11 31 (hw kw_1840) (by decide) rfl rfl dX11_findsPair_79 ?_
          refine g_aload_n C dX11_findsPair_82 rfl 1 rfl ?_
          refine gr_get C iwx_X11 37 (hw kw_1846) (by decide) rfl rfl dX11_findsPair_83 ?_
          refine g_iload_n C dX11_findsPair_86 rfl 4 rfl ?_
          obtain ⟨g17, h⟩ := h
          refine gr_ald_11 C g17 dX11_findsPair_87 ?_
          obtain ⟨g18, h⟩ := h
          refine gr_ald_7 C g18 dX11_findsPair_88 ?_
          refine g_iadd C dX11_findsPair_89 ?_
          refine g_aload_n C dX11_findsPair_90 rfl 1 rfl ?_
          refine gr_get C iwx_X11 31 (hw kw_1840) (by decide) rfl rfl dX11_findsPair_91 ?_
          refine g_iload C dX11_findsPair_94 0 rfl ?_
          obtain ⟨g19, h⟩ := h
          refine gr_ald_7 C g19 dX11_findsPair_96 ?_
          refine g_isub C dX11_findsPair_97 ?_
          refine g_topi (fun v20 ev20 => ?_)
          replace h := h v20 ev20
          refine g_istore (lv' := [(5, .int v20), (4, .int v7), (0, .ref m0), (1, .int x1), (2, .int x2), (3, .int x3)]) C dX11_findsPair_98 (by decide) rfl ?_
          refine g_aload_n C dX11_findsPair_100 rfl 2 rfl ?_
          refine gr_get C iwx_X11 38 (hw kw_1847) (by decide) rfl rfl dX11_findsPair_101 ?_
          refine g_if_lt (tgt := 171) C dX11_findsPair_104 (by decide) (fun z21 => ?_) (fun z21 => ?_)
          · replace h := h.1 z21
            refine g_iconst (v := 0) C dX11_findsPair_171 (by decide) ?_
            refine g_locals [2, 3, 4, 5, 0] rfl ?_
            refine t_X11_findsPair_172 C hr _ P ?_ x1 x2 x3 v20 0 r q h
            · intro y31 y32 y33 r34 q35 h
              refine g_locals [0, 1, 2, 3] rfl ?_
              exact ih y31 y32 y33 r34 q35 h
          · replace h := h.2 z21
            refine g_iload C dX11_findsPair_107 0 rfl ?_
            refine g_iload_n C dX11_findsPair_109 rfl 3 rfl ?_
            refine g_icmp_ne (tgt := 171) C dX11_findsPair_110 (by decide) (fun z36 => ?_) (fun z36 => ?_)
            · replace h := h.1 z36
              refine g_iconst (v := 0) C dX11_findsPair_171 (by decide) ?_
              refine g_locals [2, 3, 4, 5, 0] rfl ?_
              refine t_X11_findsPair_172 C hr _ P ?_ x1 x2 x3 v20 0 r q h
              · intro y37 y38 y39 r40 q41 h
                refine g_locals [0, 1, 2, 3] rfl ?_
                exact ih y37 y38 y39 r40 q41 h
            · replace h := h.2 z36
              refine g_aload_n C dX11_findsPair_113 rfl 2 rfl ?_
              refine gr_get C iwx_X11 37 (hw kw_1846) (by decide) rfl rfl dX11_findsPair_114 ?_
              refine g_iload_n C dX11_findsPair_117 rfl 4 rfl ?_
              obtain ⟨g42, h⟩ := h
              refine gr_ald_11 C g42 dX11_findsPair_118 ?_
              refine g_aload_n C dX11_findsPair_119 rfl 2 rfl ?_
              refine gr_get C iwx_X11 37 (hw kw_1846) (by decide) rfl rfl dX11_findsPair_120 ?_
              refine g_aload_n C dX11_findsPair_123 rfl 2 rfl ?_
              refine gr_get C iwx_X11 38 (hw kw_1847) (by decide) rfl rfl dX11_findsPair_124 ?_
              obtain ⟨g43, h⟩ := h
              refine gr_ald_11 C g43 dX11_findsPair_127 ?_
              refine g_icmp_lt (tgt := 167) C dX11_findsPair_128 (by decide) (fun z44 => ?_) (fun z44 => ?_)
              · replace h := h.1 z44
                refine g_iconst (v := 1) C dX11_findsPair_167 (by decide) ?_
                refine g_goto (tgt := 172) C dX11_findsPair_168 (by decide) ?_
                refine g_locals [2, 3, 4, 5, 0] rfl ?_
                refine t_X11_findsPair_172 C hr _ P ?_ x1 x2 x3 v20 1 r q h
                · intro y45 y46 y47 r48 q49 h
                  refine g_locals [0, 1, 2, 3] rfl ?_
                  exact ih y45 y46 y47 r48 q49 h
              · replace h := h.2 z44
                refine g_aload_n C dX11_findsPair_131 rfl 2 rfl ?_
                refine gr_get C iwx_X11 37 (hw kw_1846) (by decide) rfl rfl dX11_findsPair_132 ?_
                refine g_iload_n C dX11_findsPair_135 rfl 4 rfl ?_
                obtain ⟨g50, h⟩ := h
                refine gr_ald_11 C g50 dX11_findsPair_136 ?_
                refine g_aload_n C dX11_findsPair_137 rfl 2 rfl ?_
                refine gr_get C iwx_X11 37 (hw kw_1846) (by decide) rfl rfl dX11_findsPair_138 ?_
                refine g_aload_n C dX11_findsPair_141 rfl 2 rfl ?_
                refine gr_get C iwx_X11 38 (hw kw_1847) (by decide) rfl rfl dX11_findsPair_142 ?_
                obtain ⟨g51, h⟩ := h
                refine gr_ald_11 C g51 dX11_findsPair_145 ?_
                refine g_icmp_ne (tgt := 171) C dX11_findsPair_146 (by decide) (fun z52 => ?_) (fun z52 => ?_)
                · replace h := h.1 z52
                  refine g_iconst (v := 0) C dX11_findsPair_171 (by decide) ?_
                  refine g_locals [2, 3, 4, 5, 0] rfl ?_
                  refine t_X11_findsPair_172 C hr _ P ?_ x1 x2 x3 v20 0 r q h
                  · intro y53 y54 y55 r56 q57 h
                    refine g_locals [0, 1, 2, 3] rfl ?_
                    exact ih y53 y54 y55 r56 q57 h
                · replace h := h.2 z52
                  refine g_aload_n C dX11_findsPair_149 rfl 2 rfl ?_
                  refine gr_get C iwx_X11 37 (hw kw_1846) (by decide) rfl rfl dX11_findsPair_150 ?_
                  refine g_iload_n C dX11_findsPair_153 rfl 5 rfl ?_
                  obtain ⟨g58, h⟩ := h
                  refine gr_ald_11 C g58 dX11_findsPair_154 ?_
                  refine g_aload_n C dX11_findsPair_155 rfl 2 rfl ?_
                  refine gr_get C iwx_X11 37 (hw kw_1846) (by decide) rfl rfl dX11_findsPair_156 ?_
                  refine g_aload_n C dX11_findsPair_159 rfl 2 rfl ?_
                  refine gr_get C iwx_X11 39 (hw kw_1848) (by decide) rfl rfl dX11_findsPair_160 ?_
                  obtain ⟨g59, h⟩ := h
                  refine gr_ald_11 C g59 dX11_findsPair_163 ?_
                  refine g_icmp_ge (tgt := 171) C dX11_findsPair_164 (by decide) (fun z60 => ?_) (fun z60 => ?_)
                  · replace h := h.1 z60
                    refine g_iconst (v := 0) C dX11_findsPair_171 (by decide) ?_
                    refine g_locals [2, 3, 4, 5, 0] rfl ?_
                    refine t_X11_findsPair_172 C hr _ P ?_ x1 x2 x3 v20 0 r q h
                    · intro y61 y62 y63 r64 q65 h
                      refine g_locals [0, 1, 2, 3] rfl ?_
                      exact ih y61 y62 y63 r64 q65 h
                  · replace h := h.2 z60
                    refine g_iconst (v := 1) C dX11_findsPair_167 (by decide) ?_
                    refine g_goto (tgt := 172) C dX11_findsPair_168 (by decide) ?_
                    refine g_locals [2, 3, 4, 5, 0] rfl ?_
                    refine t_X11_findsPair_172 C hr _ P ?_ x1 x2 x3 v20 1 r q h
                    · intro y66 y67 y68 r69 q70 h
                      refine g_locals [0, 1, 2, 3] rfl ?_
                      exact ih y66 y67 y68 r69 q70 h
def wb_X11_findsPair_9 (rec : Int32 → Int32 → (Nat → Int32) → (Nat → Nat → Int32) → Prop) (P : Int32 → RST → Prop) (x1 : Int32) (x2 : Int32) (r : Nat → Int32) (q : Nat → Nat → Int32) : Prop := ((r 36) ≤ x2 → (((r 38) < 0 → (P 0 (r, q))) ∧ (¬ (r 38) < 0 → (P 1 (r, q))))) ∧ (¬ (r 36) ≤ x2 → (∃ k76 : Nat, wp_X11_findsPair_19 (fun (y71 : Int32) (y72 : Int32) (r73 : Nat → Int32) (q74 : Nat → Nat → Int32) => ∀ v75 : Int32, v75 = y72 + 1 → (rec y71 v75 r73 q74)) P k76 x1 x2 0 r q))
def wp_X11_findsPair_9 (P : Int32 → RST → Prop) : Nat → Int32 → Int32 → (Nat → Int32) → (Nat → Nat → Int32) → Prop
  | 0 => fun _ _ _ _ => False
  | n + 1 => fun x1 x2 r q => wb_X11_findsPair_9 (wp_X11_findsPair_9  P n)  P x1 x2 r q
set_option maxRecDepth 100000 in
set_option maxHeartbeats 4000000 in
theorem t_X11_findsPair_9 {p : Program} {l : Launch} {e : Env} {s : State} {m : MethodId} {args : Array Value} {below : List Frame} {meth : Method} {c : Code} {D : va_G} {A : Nat → Prop} {T : Nat → ClassId} {m0 : Nat} {a : Nat → Nat} (C : GC p s m args meth c cX11_findsPair "FreightRaterModel" (ws_X11_findsPair) 7 D A (zty T)) (hr : meth.sig.returnType = (some .boolean)) (P : Int32 → RST → Prop) : ∀ (n : Nat) (x1 : Int32) (x2 : Int32) (r : Nat → Int32) (q : Nat → Nat → Int32), wp_X11_findsPair_9  P n x1 x2 r q → GW p l e rm_X11_findsPair s m args below meth c D A 7 0 0 (MQ below (va_Qi P (RE D T m0 a A) A) args s 0 0 A) (RW m0 a T r q) 0 0 9 [(0, .ref m0), (1, .int x1), (2, .int x2)] [] := by
  have hw : ∀ {w : Cond}, w ∈ W0 → w.before args s = true := fun h => C.2.2.2.2.1 _ (List.mem_cons_of_mem _ h)
  intro n
  induction n with
  | zero => intro x1 x2 r q h; exact h.elim
  | succ n ih =>
    intro x1 x2 r q h
    replace h : wb_X11_findsPair_9 (wp_X11_findsPair_9  P n)  P x1 x2 r q := h
    unfold wb_X11_findsPair_9 at h
    refine g_iload_n C dX11_findsPair_9 rfl 2 rfl ?_
    refine g_aload_n C dX11_findsPair_10 rfl 0 rfl ?_
    refine gr_get C iwx_X11 36 (hw kw_1845) (by decide) rfl rfl dX11_findsPair_11 ?_
    refine g_icmp_ge (tgt := 210) C dX11_findsPair_14 (by decide) (fun z2 => ?_) (fun z2 => ?_)
    · replace h := h.1 z2
      refine g_aload_n C dX11_findsPair_210 rfl 0 rfl ?_
      refine gr_get C iwx_X11 38 (hw kw_1847) (by decide) rfl rfl dX11_findsPair_211 ?_
      refine g_if_lt (tgt := 221) C dX11_findsPair_214 (by decide) (fun z3 => ?_) (fun z3 => ?_)
      · replace h := h.1 z3
        refine g_iconst (v := 0) C dX11_findsPair_221 (by decide) ?_
        exact gr_zret C hr vz0 dX11_findsPair_222 h
      · replace h := h.2 z3
        refine g_iconst (v := 1) C dX11_findsPair_217 (by decide) ?_
        refine g_goto (tgt := 222) C dX11_findsPair_218 (by decide) ?_
        exact gr_zret C hr vz1 dX11_findsPair_222 h
    · replace h := h.2 z2
      refine g_iconst (v := 0) C dX11_findsPair_17 (by decide) ?_
      refine g_istore_n (lv' := [(3, .int 0), (0, .ref m0), (1, .int x1), (2, .int x2)]) C dX11_findsPair_18 rfl (by decide) rfl ?_
      refine g_locals [1, 2, 3, 0] rfl ?_
      obtain ⟨k76, h⟩ := h
      refine t_X11_findsPair_19 C hr _ P ?_ k76 x1 x2 0 r q h
      · intro y71 y72 r73 q74 h
        obtain ⟨v75, ev75⟩ : ∃ y : Int32, y = y72 + 1 := ⟨_, rfl⟩
        replace h := h v75 ev75
        refine g_iinc (v := v75) (lv' := [(2, .int v75), (0, .ref m0), (1, .int y71)]) C dX11_findsPair_204 (j := 2) rfl (by rw [ev75]; rfl) (by decide) rfl ?_
        refine g_goto (tgt := 9) C dX11_findsPair_207 (by decide) ?_
        refine g_locals [1, 2, 0] rfl ?_
        exact ih y71 v75 r73 q74 h
def wp_X11_findsPair (P : Int32 → RST → Prop)  (r : Nat → Int32) (q : Nat → Nat → Int32) : Prop := ∀ r1 : Nat → Int32, r1 = va_up r 38 (-1) → (∃ k77 : Nat, wp_X11_findsPair_9  P k77 0 0 r1 q)
set_option maxRecDepth 100000 in
set_option maxHeartbeats 4000000 in
theorem t_X11_findsPair {p : Program} {l : Launch} {e : Env} {s : State} {m : MethodId} {args : Array Value} {below : List Frame} {meth : Method} {c : Code} {D : va_G} {A : Nat → Prop} {T : Nat → ClassId} {m0 : Nat} {a : Nat → Nat} (C : GC p s m args meth c cX11_findsPair "FreightRaterModel" (ws_X11_findsPair) 7 D A (zty T)) (hr : meth.sig.returnType = (some .boolean)) (P : Int32 → RST → Prop) : ∀  (r : Nat → Int32) (q : Nat → Nat → Int32), wp_X11_findsPair P  r q → GW p l e rm_X11_findsPair s m args below meth c D A 7 0 0 (MQ below (va_Qi P (RE D T m0 a A) A) args s 0 0 A) (RW m0 a T r q) 0 0 0 [(0, .ref m0)] [] := by
  have hw : ∀ {w : Cond}, w ∈ W0 → w.before args s = true := fun h => C.2.2.2.2.1 _ (List.mem_cons_of_mem _ h)
  intro  r q h
  unfold wp_X11_findsPair at h
  refine g_iconst (v := 0) C dX11_findsPair_0 (by decide) ?_
  refine g_istore_n (lv' := [(1, .int 0), (0, .ref m0)]) C dX11_findsPair_1 rfl (by decide) rfl ?_
  refine g_aload_n C dX11_findsPair_2 rfl 1 rfl ?_
  refine g_iconst (v := -1) C dX11_findsPair_3 (by decide) ?_
  refine gr_put_38 C iwx_X11 (hw kw_1847) dX11_findsPair_4 ?_
  refine gr_nr (fun r1 er1 => ?_)
  replace h := h r1 er1
  refine g_iconst (v := 0) C dX11_findsPair_7 (by decide) ?_
  refine g_istore_n (lv' := [(2, .int 0), (1, .int 0), (0, .ref m0)]) C dX11_findsPair_8 rfl (by decide) rfl ?_
  refine g_locals [2, 1, 0] rfl ?_
  obtain ⟨k77, h⟩ := h
  refine t_X11_findsPair_9 C hr  P  k77 0 0 r1 q h
theorem c_X11_findsPair (l : Launch) (D : va_G) (T : Nat → ClassId) (m0 : Nat) (a : Nat → Nat)  (r : Nat → Int32) (q : Nat → Nat → Int32) (P : Int32 → RST → Prop) (h : wp_X11_findsPair P  r q) : RMi l yX11_findsPair (ws_X11_findsPair) rm_X11_findsPair D T m0 a [.ref m0] r q P := gr_meti (by decide) rfl rfl (Nat.le_of_ble_eq_true rfl) (fun p e s m args below meth c A C hr => t_X11_findsPair C hr P  r q h)
def gl (G : List Nat) (i : Nat) : Nat := (G[i]?).getD 0
abbrev MS : Type := Int32 × Option (Nat × Nat)
def gaF (T : Nat → Int32) (G : List Nat) (a b : Nat) : Int32 := T (gl G a) + T (gl G b) - T (gl G a ||| gl G b)
def sonB (T : Nat → Int32) (G : List Nat) (a b : Nat) (s : MS) : Bool := match s.2 with | none => false | some (o, p) => decide (gaF T G a b = s.1) && (decide (gl G a < gl G o) || (decide (gl G a = gl G o) && decide (gl G b < gl G p)))
/-- one pair more -/
def fpS (T : Nat → Int32) (G : List Nat) (a b : Nat) (s : MS) : MS := if gl G a < gl G b ∧ 0 ≤ T (gl G a ||| gl G b) then (if s.1 < gaF T G a b ∨ sonB T G a b s = true then (gaF T G a b, some (a, b)) else s) else s
def fpB (T : Nat → Int32) (G : List Nat) (a : Nat) : Nat → Nat → MS → MS
  | 0, _, s => s
  | k + 1, b, s => fpB T G a k (b + 1) (fpS T G a b s)
def fpA (T : Nat → Int32) (G : List Nat) : Nat → Nat → MS → MS
  | 0, _, s => s
  | k + 1, a, s => fpA T G k (a + 1) (fpB T G a G.length 0 s)
def fpF (T : Nat → Int32) (G : List Nat) : MS := fpA T G G.length 0 (0, none)
def mgS (G : List Nat) (a b : Nat) : List Nat := ((G.set a (gl G a ||| gl G b)).set b (gl (G.set a (gl G a ||| gl G b)) (G.length - 1))).dropLast
def mgL (T : Nat → Int32) : Nat → List Nat → List Nat
  | 0, G => G
  | k + 1, G => match (fpF T G).2 with | none => G | some (a, b) => mgL T k (mgS G a b)
/-- the members of a set, each alone -/
def siL (n : Nat) : Nat → Nat → List Nat
  | 0, _ => []
  | k + 1, s => if n.testBit s = true then 2 ^ s :: siL n k (s + 1) else siL n k (s + 1)
/-- the groups of the plain merging -/
def meF (μ : Nat → Int32) (n : Nat) : List Nat := mgL (ttF μ) 10 (siL n (iv (μ 1)) 0)
def suL (T : Nat → Int32) : List Nat → Int32 → Int32
  | [], x => x
  | g :: l, x => suL T l (x + T g)
def loL (s : Nat) : List Nat → Int32 → Int32
  | [], x => x
  | g :: l, x => loL s l (if g.testBit s = true then nI g else x)
def meC (μ : Nat → Int32) (g w : Int32) : Int32 := if lckF μ g 8 = 0 then (if zin w 0 2 = 0 then 2 else match rfF μ (iv g) with | none => 0 | some _ => 3) else lckF μ g 8
def meA (μ : Nat → Int32) (n : Nat) (w : Int32) : Int32 := if w = 0 then suL (ttF μ) (meF μ n) 0 else if w = 1 then nI (meF μ n).length else loL (lowN n) (meF μ n) 0
/-- the groups as they stand in the row of ten -/
def alL (w : Nat → Int32) (n : Nat) : List Nat := (List.range n).map (fun i => iv (w i))
def grO (r : Nat → Int32) (q : Nat → Nat → Int32) : Prop := ∃ n : Nat, n ≤ 10 ∧ r 36 = nI n ∧ ∀ i, i < n → ∃ g : Nat, 0 < g ∧ g < 1024 ∧ q 11 i = nI g
def lmP (r : Nat → Int32) (q : Nat → Nat → Int32) (n : Nat) (r1 : Nat → Int32) (q1 : Nat → Nat → Int32) : Prop := kR r r1 [7, 17, 18, 19, 20, 21, 22, 23, 24, 25, 26, 27, 28, 36, 38, 39] ∧ kQ q q1 [7, 11] ∧ (∀ p, 0 < p → sub p n → q1 7 p = ttF (q 0) p) ∧ (meF (q 0) n).length ≤ 10 ∧ r1 36 = nI (meF (q 0) n).length ∧ (∀ i, i < (meF (q 0) n).length → q1 11 i = nI (gl (meF (q 0) n) i)) ∧ ∀ i, i < (meF (q 0) n).length → 0 < gl (meF (q 0) n) i ∧ sub (gl (meF (q 0) n) i) n
theorem alL_len {w : Nat → Int32} {n : Nat} : (alL w n).length = n := by unfold alL; rw [List.length_map, List.length_range]
theorem alL_gl {w : Nat → Int32} {n i : Nat} (h : i < n) : gl (alL w n) i = iv (w i) := by
  unfold gl alL
  rw [List.getElem?_map, List.getElem?_range h]
  rfl
theorem or_lt {a b : Nat} (h : a < 1024) (h2 : b < 1024) : a ||| b < 1024 := Nat.or_lt_two_pow (n := 10) h h2
theorem or_pos {a b : Nat} (h : 0 < a) : 0 < a ||| b := Nat.lt_of_lt_of_le h Nat.left_le_or
/-- how the best pair stands in the fields -/
def fpR (r : Nat → Int32) (n : Nat) (s : MS) : Prop := match s.2 with | none => r 38 = -1 | some (a, b) => a < n ∧ b < n ∧ r 38 = nI a ∧ r 39 = nI b
theorem w_fp172 {P : Int32 → RST → Prop} {K : Int32 → Int32 → Int32 → (Nat → Int32) → (Nat → Nat → Int32) → Prop} {r : Nat → Int32} {q : Nat → Nat → Int32} {T : Nat → Int32} {G : List Nat} {a b n : Nat} {s : MS} {s0 : Int32} (hn : n ≤ 10) (ha : a < n) (hb : b < n) (hv : gl G a < gl G b ∧ 0 ≤ T (gl G a ||| gl G b)) (hR : fpR r n s) (hs : s0 = b2i (sonB T G a b s) ∨ s.1 < gaF T G a b) (hK : ∀ r1, kR r r1 [38, 39] → fpR r1 n (fpS T G a b s) → K (fpS T G a b s).1 (nI a) (nI (b + 1)) r1 q) : wp_X11_findsPair_172 K P s.1 (nI a) (nI b) (gaF T G a b) s0 r q := by
  have hS : fpS T G a b s = if s.1 < gaF T G a b ∨ sonB T G a b s = true then (gaF T G a b, some (a, b)) else s := by unfold fpS; rw [if_pos hv]
  have take : (s.1 < gaF T G a b ∨ sonB T G a b s = true) → (∀ r23 : Nat → Int32, r23 = va_up r 38 (nI a) → (∀ r24 : Nat → Int32, r24 = va_up r23 39 (nI b) → (∀ v25 : Int32, v25 = nI (b + 1) → (K (gaF T G a b) (nI a) v25 r24 q)))) := by
    intro hc r23 e23 r24 e24 v25 e25
    subst e25
    rw [if_pos hc] at hS
    rw [hS] at hK
    refine hK r24 (by rw [e24, e23]; exact (kR.rf.up (by decide) _).up (by decide) _) ⟨ha, hb, ?_, ?_⟩
    · rw [e24, va_up_ne _ _ (by decide), e23, va_up_self]
    · rw [e24, va_up_self]
  unfold wp_X11_findsPair_172
  rw [nI_1]
  refine ⟨fun c => take (Or.inl c), fun c => ⟨fun c2 v27 e27 => ?_, fun c2 => take (Or.inr ?_)⟩⟩
  · subst e27
    rcases hs with hs | hs
    · have : sonB T G a b s = false := (b2i_0 _).mp (hs.symm.trans c2)
      rw [if_neg (by rw [this]; rintro (w9 | w9); exact c w9; cases w9)] at hS
      rw [hS] at hK
      exact hK r kR.rf hR
    · exact absurd hs c
  · rcases hs with hs | hs
    · exact bx_of hs c2
    · exact absurd hs c
theorem rl_fpB {P : Int32 → RST → Prop} {K : Int32 → Int32 → (Nat → Int32) → (Nat → Nat → Int32) → Prop} {q : Nat → Nat → Int32} {G : List Nat} {a n : Nat} (hn : n ≤ 10) (ha : a < n) (hl : G.length = n) (hG : ∀ i, i < n → 0 < gl G i ∧ gl G i < 1024 ∧ q 11 i = nI (gl G i)) : ∀ (k b fuel : Nat) (s : MS) (r : Nat → Int32), b + k = n → k < fuel → r 36 = nI n → fpR r n s → (∀ r1, kR r r1 [38, 39] → fpR r1 n (fpB (q 7) G a k b s) → K (fpB (q 7) G a k b s).1 (nI a) r1 q) → wp_X11_findsPair_19 K P fuel s.1 (nI a) (nI b) r q := by
  intro k
  induction k with
  | zero =>
    intro b fuel s r hb hf h36 hR hK
    obtain ⟨f, rfl⟩ : ∃ f, fuel = f + 1 := ⟨fuel - 1, by omega⟩; rw [wp_X11_findsPair_19]; unfold wb_X11_findsPair_19; dsimp only
    rw [h36, nI_leI (by omega) (by omega)]
    exact ⟨fun _ => hK r kR.rf hR, fun z9 => absurd (by omega) z9⟩
  | succ k ih =>
    intro b fuel s r hb hf h36 hR hK
    obtain ⟨ga0, ga1, ga2⟩ := hG a ha
    obtain ⟨gb0, gb1, gb2⟩ := hG b (by omega)
    have hor := or_lt ga1 gb1
    rw [fpB] at hK
    obtain ⟨f, rfl⟩ : ∃ f, fuel = f + 1 := ⟨fuel - 1, by omega⟩; rw [wp_X11_findsPair_19]; unfold wb_X11_findsPair_19; dsimp only
    rw [h36, nI_leI (by omega) (by omega), nz_vp (a := a) (by omega) (by decide), nz_vp (a := b) (by omega) (by decide), nI_clamp (n := a) (by omega), nI_clamp (n := b) (by omega), ga2, gb2, nI_or, nI_leI (by omega) (by omega)]
    -- the next one
    have nxt : fpS (q 7) G a b s = s → ∀ v : Int32, v = nI b + 1 → wp_X11_findsPair_19 K P f s.1 (nI a) v r q := fun hs v e => by
      rw [nI_1] at e
      subst e
      rw [hs] at hK
      exact ih (b + 1) f s r (by omega) (by omega) h36 hR hK
    refine ⟨fun z9 => absurd z9 (by omega), fun _ => ⟨by omega, by omega, fun v7 e7 => ⟨by omega, by omega, fun c => nxt (by unfold fpS; rw [if_neg (fun w9 => by omega)]), fun c => ?_⟩⟩⟩
    subst e7
    rw [nz_vp (a := gl G a ||| gl G b) (by omega) (by decide), nI_clamp (n := gl G a ||| gl G b) (by omega)]
    refine ⟨hor, fun c2 => nxt (by unfold fpS; rw [if_neg (fun w9 => absurd c2 (Int32.not_lt.mpr w9.2))]), fun c2 => ?_⟩
    rw [nz_vp (a := gl G a) (by omega) (by decide), nz_vp (a := gl G b) (by omega) (by decide), nI_clamp (n := gl G a) (by omega), nI_clamp (n := gl G b) (by omega)]
    refine ⟨by omega, ga1, by omega, gb1, hor, fun v20 e20 => ?_⟩
    have e20' : v20 = gaF (q 7) G a b := e20
    clear e20
    subst e20'
    have hv : gl G a < gl G b ∧ 0 ≤ q 7 (gl G a ||| gl G b) := ⟨by omega, Int32.not_lt.mp c2⟩
    have go : ∀ s0 : Int32, s0 = b2i (sonB (q 7) G a b s) → wp_X11_findsPair_172 (fun (y31 : Int32) (y32 : Int32) (y33 : Int32) (r34 : Nat → Int32) (q35 : Nat → Nat → Int32) => wp_X11_findsPair_19 K P f y31 y32 y33 r34 q35) P s.1 (nI a) (nI b) (gaF (q 7) G a b) s0 r q := fun s0 hs => w_fp172 hn ha (by omega) hv hR (Or.inl hs) (fun r1 h1 h2 => ih (b + 1) f _ r1 (by omega) (by omega) (by rw [h1 36 (by decide)]; exact h36) h2 (fun r2 g1 g2 => hK r2 (h1.tr g1 (fun _ h => h) (fun _ h => h)) g2))
    cases hs2 : s.2 with
    | none =>
      have h38 : r 38 = -1 := by unfold fpR at hR; rw [hs2] at hR; exact hR
      have hson : sonB (q 7) G a b s = false := by unfold sonB; rw [hs2]
      rw [h38]
      exact ⟨fun _ => go 0 (by rw [hson]; rfl), fun z9 => absurd (by decide) z9⟩
    | some op =>
      obtain ⟨o, p⟩ := op
      have hR' : o < n ∧ p < n ∧ r 38 = nI o ∧ r 39 = nI p := by unfold fpR at hR; rw [hs2] at hR; exact hR
      obtain ⟨ho, hp, h38, h39⟩ := hR'
      obtain ⟨go0, go1, go2⟩ := hG o ho
      obtain ⟨gp0, gp1, gp2⟩ := hG p hp
      have hson : sonB (q 7) G a b s = (decide (gaF (q 7) G a b = s.1) && (decide (gl G a < gl G o) || (decide (gl G a = gl G o) && decide (gl G b < gl G p)))) := by unfold sonB; rw [hs2]
      rw [h38, h39, nz_lt0 (by omega), nz_vp (a := o) (by omega) (by decide), nz_vp (a := p) (by omega) (by decide), nI_clamp (n := o) (by omega), nI_clamp (n := p) (by omega), go2, gp2, nI_ltI (by omega) (by omega), nI_eq (by omega) (by omega), nI_leI (by omega) (by omega)]
      refine ⟨fun z9 => absurd z9 (by decide), fun _ => ⟨fun c3 => go 0 (by rw [hson, decide_eq_false c3]; rfl), fun c3 => ⟨by omega, by omega, fun c4 => go 1 (by rw [hson, decide_eq_true c3, decide_eq_true c4]; rfl), fun c4 => ⟨by omega, by omega, fun c5 => go 0 (by rw [hson, decide_eq_true c3, decide_eq_false c4, decide_eq_false c5]; rfl), fun c5 => ⟨by omega, by omega, fun c6 => go 0 (by rw [hson, decide_eq_true c3, decide_eq_false c4, decide_eq_true c5, decide_eq_false (by omega)]; rfl), fun c6 => go 1 (by rw [hson, decide_eq_true c3, decide_eq_false c4, decide_eq_true c5, decide_eq_true (by omega)]; rfl)⟩⟩⟩⟩⟩
theorem rl_fpA {P : Int32 → RST → Prop} {q : Nat → Nat → Int32} {G : List Nat} {n : Nat} (hn : n ≤ 10) (hl : G.length = n) (hG : ∀ i, i < n → 0 < gl G i ∧ gl G i < 1024 ∧ q 11 i = nI (gl G i)) : ∀ (k a fuel : Nat) (s : MS) (r : Nat → Int32), a + k = n → k < fuel → r 36 = nI n → fpR r n s → (∀ r1, kR r r1 [38, 39] → fpR r1 n (fpA (q 7) G k a s) → P (match (fpA (q 7) G k a s).2 with | none => 0 | some _ => 1) (r1, q)) → wp_X11_findsPair_9 P fuel s.1 (nI a) r q := by
  intro k
  induction k with
  | zero =>
    intro a fuel s r ha hf h36 hR hP
    obtain ⟨f, rfl⟩ : ∃ f, fuel = f + 1 := ⟨fuel - 1, by omega⟩; rw [wp_X11_findsPair_9]; unfold wb_X11_findsPair_9; dsimp only
    rw [h36, nI_leI (by omega) (by omega)]
    have hP := hP r kR.rf hR
    refine ⟨fun _ => ?_, fun z9 => absurd (by omega) z9⟩
    unfold fpA at hP
    cases hs2 : s.2 with
    | none =>
      have h38 : r 38 = -1 := by unfold fpR at hR; rw [hs2] at hR; exact hR
      rw [hs2] at hP
      rw [h38]
      exact ⟨fun _ => hP, fun z9 => absurd (by decide) z9⟩
    | some op =>
      obtain ⟨o, p⟩ := op
      have hR' : o < n ∧ p < n ∧ r 38 = nI o ∧ r 39 = nI p := by unfold fpR at hR; rw [hs2] at hR; exact hR
      rw [hs2] at hP
      rw [hR'.2.2.1, nz_lt0 (by omega)]
      exact ⟨fun z9 => absurd z9 (by decide), fun _ => hP⟩
  | succ k ih =>
    intro a fuel s r ha hf h36 hR hP
    rw [fpA] at hP
    obtain ⟨f, rfl⟩ : ∃ f, fuel = f + 1 := ⟨fuel - 1, by omega⟩; rw [wp_X11_findsPair_9]; unfold wb_X11_findsPair_9; dsimp only
    rw [h36, nI_leI (by omega) (by omega)]
    refine ⟨fun z9 => absurd z9 (by omega), fun _ => ⟨20, ?_⟩⟩
    refine rl_fpB (G := G) (n := n) hn (by omega) hl hG n 0 20 s r (by omega) (by omega) h36 hR (fun r1 h1 h2 v75 e75 => ?_)
    rw [nI_1] at e75
    subst e75
    rw [hl] at hP
    exact ih (a + 1) f _ r1 (by omega) (by omega) (by rw [h1 36 (by decide)]; exact h36) h2 (fun r2 g1 g2 => hP r2 (h1.tr g1 (fun _ h => h) (fun _ h => h)) g2)
theorem k_X11_findsPair (l : Launch) (D : va_G) (T : Nat → ClassId) (m0 : Nat) (a : Nat → Nat)  (r : Nat → Int32) (q : Nat → Nat → Int32) (h : grO r q) : RMi l yX11_findsPair (ws_X11_findsPair) rm_X11_findsPair D T m0 a [.ref m0] r q (fun v u => (u.2 = q ∧ v = (match (fpF (q 7) (alL (q 11) (iv (r 36)))).2 with | none => 0 | some _ => 1) ∧ kR r u.1 [38, 39] ∧ ∀ a b, (fpF (q 7) (alL (q 11) (iv (r 36)))).2 = some (a, b) → a < iv (r 36) ∧ b < iv (r 36) ∧ u.1 38 = nI a ∧ u.1 39 = nI b)) := c_X11_findsPair l D T m0 a  r q _ <|
  (by
    obtain ⟨n, hn, h36, hg⟩ := h
    have i36 : iv (r 36) = n := by rw [h36]; exact nI_clamp (by omega)
    rw [i36]
    have hG : ∀ i, i < n → 0 < gl (alL (q 11) n) i ∧ gl (alL (q 11) n) i < 1024 ∧ q 11 i = nI (gl (alL (q 11) n) i) := fun i hi => by
      obtain ⟨g, g0, g1, g2⟩ := hg i hi
      rw [alL_gl hi, g2, show iv (nI g) = g from nI_clamp (by omega)]
      exact ⟨g0, g1, rfl⟩
    unfold wp_X11_findsPair
    intro r1 e1
    refine ⟨20, ?_⟩
    have k1 : kR r r1 [38, 39] := by rw [e1]; exact kR.rf.up (by decide) _
    have hR : fpR r1 n (0, none) := by show r1 38 = -1; rw [e1, va_up_self]
    refine rl_fpA (G := alL (q 11) n) (n := n) hn alL_len hG n 0 20 (0, none) r1 (by omega) (by omega) (by rw [k1 36 (by decide)]; exact h36) hR (fun r2 g1 g2 => ?_)
    have hF : fpA (q 7) (alL (q 11) n) n 0 (0, none) = fpF (q 7) (alL (q 11) n) := by unfold fpF; rw [alL_len]
    rw [hF] at g2 ⊢
    refine ⟨rfl, rfl, k1.tr g1 (fun _ h => h) (fun _ h => h), fun a b hab => ?_⟩
    unfold fpR at g2
    rw [hab] at g2
    exact g2)

end S_RVS
