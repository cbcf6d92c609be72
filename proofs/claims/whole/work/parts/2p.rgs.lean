section S_RGS
abbrev ws_X11_readCondition : List Cond := Cond.code yX11_readCondition cX11_readCondition 5 (some .int) :: W0
abbrev rm_X11_readCondition : Room := ({ frames := 4, cells := 0, slots := 0, locals := 91 } : Room)
def wp_X11_readCondition_62 (K20 : Int32 → Int32 → (Nat → Int32) → (Nat → Nat → Int32) → Prop) (P : Int32 → RST → Prop) (x3 : Int32) (x4 : Int32) (s0 : Int32) (s1 : Int32) (r : Nat → Int32) (q : Nat → Nat → Int32) : Prop := ∀ v12 : Int32, v12 = (s1 + s0) → ((¬ x3 = 0 → ((psO r ∧ tsO r) ∧ (∀ (r15 : Nat → Int32) (q16 : Nat → Nat → Int32), (tsP r q v12 r15 q16) → ((¬ (r15 11) = 0 → (K20 v12 0 r15 q16)) ∧ ((r15 11) = 0 → (K20 v12 1 r15 q16)))))) ∧ (x3 = 0 → ((x4 = 0 → (K20 v12 0 r q)) ∧ (¬ x4 = 0 → ((psO r ∧ tsO r) ∧ (∀ (r21 : Nat → Int32) (q22 : Nat → Nat → Int32), (tsP r q v12 r21 q22) → ((¬ (r21 11) = 0 → (K20 v12 0 r21 q22)) ∧ ((r21 11) = 0 → (K20 v12 1 r21 q22)))))))))
set_option maxRecDepth 100000 in
set_option maxHeartbeats 4000000 in
theorem t_X11_readCondition_62 {p : Program} {l : Launch} {e : Env} {s : State} {m : MethodId} {args : Array Value} {below : List Frame} {meth : Method} {c : Code} {D : va_G} {A : Nat → Prop} {T : Nat → ClassId} {m0 : Nat} {a : Nat → Nat} (C : GC p s m args meth c cX11_readCondition "FreightRaterModel" (ws_X11_readCondition) 5 D A (zty T)) (hr : meth.sig.returnType = (some .int)) (K20 : Int32 → Int32 → (Nat → Int32) → (Nat → Nat → Int32) → Prop) (P : Int32 → RST → Prop) (hK20 : ∀ (x1 : Int32) (x2 : Int32) (r : Nat → Int32) (q : Nat → Nat → Int32), K20 x1 x2 r q → GW p l e rm_X11_readCondition s m args below meth c D A 5 0 0 (MQ below (va_Qi P (RE D T m0 a A) A) args s 0 0 A) (RW m0 a T r q) 0 0 20 [(0, .ref m0), (1, .int x1), (2, .int x2)] []) : ∀ (x3 : Int32) (x4 : Int32) (s0 : Int32) (s1 : Int32) (r : Nat → Int32) (q : Nat → Nat → Int32), wp_X11_readCondition_62 K20 P x3 x4 s0 s1 r q → GW p l e rm_X11_readCondition s m args below meth c D A 5 0 0 (MQ below (va_Qi P (RE D T m0 a A) A) args s 0 0 A) (RW m0 a T r q) 0 0 62 [(0, .ref m0), (3, .int x3), (4, .int x4)] [.int s0, .int s1] := by
  have hw : ∀ {w : Cond}, w ∈ W0 → w.before args s = true := fun h => C.2.2.2.2.1 _ (List.mem_cons_of_mem _ h)
  intro x3 x4 s0 s1 r q h
  unfold wp_X11_readCondition_62 at h
  refine g_iadd C dX11_readCondition_62 ?_
  refine g_topi (fun v12 ev12 => ?_)
  replace h := h v12 ev12
  refine g_istore_n (lv' := [(1, .int v12), (0, .ref m0), (3, .int x3), (4, .int x4)]) C dX11_readCondition_63 rfl (by decide) rfl ?_
  refine g_iload_n C dX11_readCondition_64 rfl 2 rfl ?_
  refine g_if_ne (tgt := 73) C dX11_readCondition_65 (by decide) (fun z13 => ?_) (fun z13 => ?_)
  · replace h := h.1 z13
    refine g_iconst (v := 1) C dX11_readCondition_73 (by decide) ?_
    refine g_goto (tgt := 78) C dX11_readCondition_74 (by decide) ?_
    refine g_istore_n (lv' := [(2, .int 1), (1, .int v12), (0, .ref m0), (3, .int x3), (4, .int x4)]) C dX11_readCondition_78 rfl (by decide) rfl ?_
    refine g_iload_n C dX11_readCondition_79 rfl 0 rfl ?_
    refine g_if_eq (tgt := 101) C dX11_readCondition_80 (by decide) (fun z => absurd z (by decide)) (fun _ => ?_)
    refine g_aload_n C dX11_readCondition_83 rfl 2 rfl ?_
    refine g_iload_n C dX11_readCondition_84 rfl 1 rfl ?_
    obtain ⟨g17, h⟩ := h
    refine gr_callvV C [.int v12] rfl (k_X11_readTest l D T m0 a v12 r q g17) (w0_V 1 C.2.2.2.2.1 kw_2070 kw_2072 ks_70 kw_9 kw_2073 rfl rfl (by decide +kernel) ⟨by decide, by decide⟩) rfl (Nat.le_of_ble_eq_true rfl) (Nat.zero_le _) (Nat.zero_le _) dX11_readCondition_85 (fun r15 q16 hp => ?_)
    replace h := h r15 q16 hp
    refine g_aload_n C dX11_readCondition_88 rfl 2 rfl ?_
    refine gr_get C iwx_X11 11 (hw kw_1820) (by decide) rfl rfl dX11_readCondition_89 ?_
    refine g_if_ne (tgt := 99) C dX11_readCondition_92 (by decide) (fun z18 => ?_) (fun z18 => ?_)
    · replace h := h.1 z18
      refine g_iconst (v := 0) C dX11_readCondition_99 (by decide) ?_
      refine g_istore_n (lv' := [(2, .int 0), (1, .int v12), (0, .ref m0), (3, .int x3), (4, .int x4)]) C dX11_readCondition_100 rfl (by decide) rfl ?_
      refine g_goto (tgt := 20) C dX11_readCondition_101 (by decide) ?_
      refine g_locals [2, 1, 0] rfl ?_
      exact hK20 v12 0 r15 q16 h
    · replace h := h.2 z18
      refine g_iconst (v := 1) C dX11_readCondition_95 (by decide) ?_
      refine g_goto (tgt := 100) C dX11_readCondition_96 (by decide) ?_
      refine g_istore_n (lv' := [(2, .int 1), (1, .int v12), (0, .ref m0), (3, .int x3), (4, .int x4)]) C dX11_readCondition_100 rfl (by decide) rfl ?_
      refine g_goto (tgt := 20) C dX11_readCondition_101 (by decide) ?_
      refine g_locals [2, 1, 0] rfl ?_
      exact hK20 v12 1 r15 q16 h
  · replace h := h.2 z13
    refine g_iload C dX11_readCondition_68 3 rfl ?_
    refine g_if_eq (tgt := 77) C dX11_readCondition_70 (by decide) (fun z19 => ?_) (fun z19 => ?_)
    · replace h := h.1 z19
      refine g_iconst (v := 0) C dX11_readCondition_77 (by decide) ?_
      refine g_istore_n (lv' := [(2, .int 0), (1, .int v12), (0, .ref m0), (3, .int x3), (4, .int x4)]) C dX11_readCondition_78 rfl (by decide) rfl ?_
      refine g_iload_n C dX11_readCondition_79 rfl 0 rfl ?_
      refine g_if_eq (tgt := 101) C dX11_readCondition_80 (by decide) (fun _ => ?_) (fun z => absurd z (by decide))
      refine g_goto (tgt := 20) C dX11_readCondition_101 (by decide) ?_
      refine g_locals [2, 1, 0] rfl ?_
      exact hK20 v12 0 r q h
    · replace h := h.2 z19
      refine g_iconst (v := 1) C dX11_readCondition_73 (by decide) ?_
      refine g_goto (tgt := 78) C dX11_readCondition_74 (by decide) ?_
      refine g_istore_n (lv' := [(2, .int 1), (1, .int v12), (0, .ref m0), (3, .int x3), (4, .int x4)]) C dX11_readCondition_78 rfl (by decide) rfl ?_
      refine g_iload_n C dX11_readCondition_79 rfl 0 rfl ?_
      refine g_if_eq (tgt := 101) C dX11_readCondition_80 (by decide) (fun z => absurd z (by decide)) (fun _ => ?_)
      refine g_aload_n C dX11_readCondition_83 rfl 2 rfl ?_
      refine g_iload_n C dX11_readCondition_84 rfl 1 rfl ?_
      obtain ⟨g23, h⟩ := h
      refine gr_callvV C [.int v12] rfl (k_X11_readTest l D T m0 a v12 r q g23) (w0_V 1 C.2.2.2.2.1 kw_2070 kw_2072 ks_70 kw_9 kw_2073 rfl rfl (by decide +kernel) ⟨by decide, by decide⟩) rfl (Nat.le_of_ble_eq_true rfl) (Nat.zero_le _) (Nat.zero_le _) dX11_readCondition_85 (fun r21 q22 hp => ?_)
      replace h := h r21 q22 hp
      refine g_aload_n C dX11_readCondition_88 rfl 2 rfl ?_
      refine gr_get C iwx_X11 11 (hw kw_1820) (by decide) rfl rfl dX11_readCondition_89 ?_
      refine g_if_ne (tgt := 99) C dX11_readCondition_92 (by decide) (fun z24 => ?_) (fun z24 => ?_)
      · replace h := h.1 z24
        refine g_iconst (v := 0) C dX11_readCondition_99 (by decide) ?_
        refine g_istore_n (lv' := [(2, .int 0), (1, .int v12), (0, .ref m0), (3, .int x3), (4, .int x4)]) C dX11_readCondition_100 rfl (by decide) rfl ?_
        refine g_goto (tgt := 20) C dX11_readCondition_101 (by decide) ?_
        refine g_locals [2, 1, 0] rfl ?_
        exact hK20 v12 0 r21 q22 h
      · replace h := h.2 z24
        refine g_iconst (v := 1) C dX11_readCondition_95 (by decide) ?_
        refine g_goto (tgt := 100) C dX11_readCondition_96 (by decide) ?_
        refine g_istore_n (lv' := [(2, .int 1), (1, .int v12), (0, .ref m0), (3, .int x3), (4, .int x4)]) C dX11_readCondition_100 rfl (by decide) rfl ?_
        refine g_goto (tgt := 20) C dX11_readCondition_101 (by decide) ?_
        refine g_locals [2, 1, 0] rfl ?_
        exact hK20 v12 1 r21 q22 h
def wb_X11_readCondition_20 (rec : Int32 → Int32 → (Nat → Int32) → (Nat → Nat → Int32) → Prop) (P : Int32 → RST → Prop) (x1 : Int32) (x2 : Int32) (r : Nat → Int32) (q : Nat → Nat → Int32) : Prop := (x2 = 0 → (P (x1 + 1) (r, q))) ∧ (¬ x2 = 0 → ((psO r ∧ ¬ 38 = (-1 : Int32)) ∧ (∀ (v7 : Int32) (r8 : Nat → Int32) (q9 : Nat → Nat → Int32), (v7 = b2i (tkB (q 4) (iv (r 8)) (pσ r) 38) ∧ q9 = q ∧ kR r r8 [10] ∧ psO r8 ∧ pσ r8 = tkS (q 4) (iv (r 8)) (pσ r) 38) → ((¬ v7 = 0 → (wp_X11_readCondition_62 (fun (y25 : Int32) (y26 : Int32) (r27 : Nat → Int32) (q28 : Nat → Nat → Int32) => rec y25 y26 r27 q28) P v7 0 0 x1 r8 q9)) ∧ (v7 = 0 → ((psO r8 ∧ ¬ 124 = (-1 : Int32)) ∧ (∀ (v29 : Int32) (r30 : Nat → Int32) (q31 : Nat → Nat → Int32), (v29 = b2i (tkB (q9 4) (iv (r8 8)) (pσ r8) 124) ∧ q31 = q9 ∧ kR r8 r30 [10] ∧ psO r30 ∧ pσ r30 = tkS (q9 4) (iv (r8 8)) (pσ r8) 124) → ((v29 = 0 → (wp_X11_readCondition_62 (fun (y34 : Int32) (y35 : Int32) (r36 : Nat → Int32) (q37 : Nat → Nat → Int32) => rec y34 y35 r36 q37) P v7 0 0 x1 r30 q31)) ∧ (¬ v29 = 0 → (wp_X11_readCondition_62 (fun (y38 : Int32) (y39 : Int32) (r40 : Nat → Int32) (q41 : Nat → Nat → Int32) => rec y38 y39 r40 q41) P v7 1 1 x1 r30 q31))))))))))
def wp_X11_readCondition_20 (P : Int32 → RST → Prop) : Nat → Int32 → Int32 → (Nat → Int32) → (Nat → Nat → Int32) → Prop
  | 0 => fun _ _ _ _ => False
  | n + 1 => fun x1 x2 r q => wb_X11_readCondition_20 (wp_X11_readCondition_20  P n)  P x1 x2 r q
set_option maxRecDepth 100000 in
set_option maxHeartbeats 4000000 in
theorem t_X11_readCondition_20 {p : Program} {l : Launch} {e : Env} {s : State} {m : MethodId} {args : Array Value} {below : List Frame} {meth : Method} {c : Code} {D : va_G} {A : Nat → Prop} {T : Nat → ClassId} {m0 : Nat} {a : Nat → Nat} (C : GC p s m args meth c cX11_readCondition "FreightRaterModel" (ws_X11_readCondition) 5 D A (zty T)) (hr : meth.sig.returnType = (some .int)) (P : Int32 → RST → Prop) : ∀ (n : Nat) (x1 : Int32) (x2 : Int32) (r : Nat → Int32) (q : Nat → Nat → Int32), wp_X11_readCondition_20  P n x1 x2 r q → GW p l e rm_X11_readCondition s m args below meth c D A 5 0 0 (MQ below (va_Qi P (RE D T m0 a A) A) args s 0 0 A) (RW m0 a T r q) 0 0 20 [(0, .ref m0), (1, .int x1), (2, .int x2)] [] := by
  have hw : ∀ {w : Cond}, w ∈ W0 → w.before args s = true := fun h => C.2.2.2.2.1 _ (List.mem_cons_of_mem _ h)
  intro n
  induction n with
  | zero => intro x1 x2 r q h; exact h.elim
  | succ n ih =>
    intro x1 x2 r q h
    replace h : wb_X11_readCondition_20 (wp_X11_readCondition_20  P n)  P x1 x2 r q := h
    unfold wb_X11_readCondition_20 at h
    refine g_iload_n C dX11_readCondition_20 rfl 2 rfl ?_
    refine g_if_eq (tgt := 104) C dX11_readCondition_21 (by decide) (fun z6 => ?_) (fun z6 => ?_)
    · replace h := h.1 z6
      refine g_iload_n C dX11_readCondition_104 rfl 1 rfl ?_
      refine g_iconst (v := 1) C dX11_readCondition_105 (by decide) ?_
      refine g_iadd C dX11_readCondition_106 ?_
      exact gr_iret C hr dX11_readCondition_107 h
    · replace h := h.2 z6
      refine g_aload_n C dX11_readCondition_24 rfl 0 rfl ?_
      refine g_bipush (v := 38) C dX11_readCondition_25 (by decide) ?_
      obtain ⟨g10, h⟩ := h
      refine gr_calliV C [.int 38] rfl (k_X11_takes l D T m0 a 38 r q g10) (w0_V 1 C.2.2.2.2.1 kw_2054 kw_2056 ks_66 kw_9 kw_2057 rfl rfl (by decide +kernel) ⟨by decide, by decide⟩) rfl (Nat.le_of_ble_eq_true rfl) (Nat.zero_le _) (Nat.zero_le _) dX11_readCondition_27 (fun v7 r8 q9 hp => ?_)
      replace h := h v7 r8 q9 hp
      refine g_istore_n (lv' := [(3, .int v7), (0, .ref m0), (1, .int x1), (2, .int x2)]) C dX11_readCondition_30 rfl (by decide) rfl ?_
      refine g_iload_n C dX11_readCondition_31 rfl 0 rfl ?_
      refine g_if_ne (tgt := 48) C dX11_readCondition_32 (by decide) (fun z11 => ?_) (fun z11 => ?_)
      · replace h := h.1 z11
        refine g_iconst (v := 0) C dX11_readCondition_48 (by decide) ?_
        refine g_istore (lv' := [(4, .int 0), (3, .int v7), (0, .ref m0), (1, .int x1), (2, .int x2)]) C dX11_readCondition_49 (by decide) rfl ?_
        refine g_iload_n C dX11_readCondition_51 rfl 3 rfl ?_
        refine g_iload C dX11_readCondition_52 0 rfl ?_
        refine g_if_eq (tgt := 61) C dX11_readCondition_54 (by decide) (fun _ => ?_) (fun z => absurd z (by decide))
        refine g_iconst (v := 0) C dX11_readCondition_61 (by decide) ?_
        refine g_locals [2, 1, 0] rfl ?_
        refine t_X11_readCondition_62 C hr _ P ?_ v7 0 0 x1 r8 q9 h
        · intro y25 y26 r27 q28 h
          refine g_locals [0, 1, 2] rfl ?_
          exact ih y25 y26 r27 q28 h
      · replace h := h.2 z11
        refine g_aload_n C dX11_readCondition_35 rfl 1 rfl ?_
        refine g_bipush (v := 124) C dX11_readCondition_36 (by decide) ?_
        obtain ⟨g32, h⟩ := h
        refine gr_calliV C [.int 124] rfl (k_X11_takes l D T m0 a 124 r8 q9 g32) (w0_V 1 C.2.2.2.2.1 kw_2054 kw_2056 ks_66 kw_9 kw_2057 rfl rfl (by decide +kernel) ⟨by decide, by decide⟩) rfl (Nat.le_of_ble_eq_true rfl) (Nat.zero_le _) (Nat.zero_le _) dX11_readCondition_38 (fun v29 r30 q31 hp => ?_)
        replace h := h v29 r30 q31 hp
        refine g_if_eq (tgt := 48) C dX11_readCondition_41 (by decide) (fun z33 => ?_) (fun z33 => ?_)
        · replace h := h.1 z33
          refine g_iconst (v := 0) C dX11_readCondition_48 (by decide) ?_
          refine g_istore (lv' := [(4, .int 0), (3, .int v7), (0, .ref m0), (1, .int x1), (2, .int x2)]) C dX11_readCondition_49 (by decide) rfl ?_
          refine g_iload_n C dX11_readCondition_51 rfl 3 rfl ?_
          refine g_iload C dX11_readCondition_52 0 rfl ?_
          refine g_if_eq (tgt := 61) C dX11_readCondition_54 (by decide) (fun _ => ?_) (fun z => absurd z (by decide))
          refine g_iconst (v := 0) C dX11_readCondition_61 (by decide) ?_
          refine g_locals [2, 1, 0] rfl ?_
          refine t_X11_readCondition_62 C hr _ P ?_ v7 0 0 x1 r30 q31 h
          · intro y34 y35 r36 q37 h
            refine g_locals [0, 1, 2] rfl ?_
            exact ih y34 y35 r36 q37 h
        · replace h := h.2 z33
          refine g_iconst (v := 1) C dX11_readCondition_44 (by decide) ?_
          refine g_goto (tgt := 49) C dX11_readCondition_45 (by decide) ?_
          refine g_istore (lv' := [(4, .int 1), (3, .int v7), (0, .ref m0), (1, .int x1), (2, .int x2)]) C dX11_readCondition_49 (by decide) rfl ?_
          refine g_iload_n C dX11_readCondition_51 rfl 3 rfl ?_
          refine g_iload C dX11_readCondition_52 0 rfl ?_
          refine g_if_eq (tgt := 61) C dX11_readCondition_54 (by decide) (fun z => absurd z (by decide)) (fun _ => ?_)
          refine g_iconst (v := 1) C dX11_readCondition_57 (by decide) ?_
          refine g_goto (tgt := 62) C dX11_readCondition_58 (by decide) ?_
          refine g_locals [2, 1, 0] rfl ?_
          refine t_X11_readCondition_62 C hr _ P ?_ v7 1 1 x1 r30 q31 h
          · intro y38 y39 r40 q41 h
            refine g_locals [0, 1, 2] rfl ?_
            exact ih y38 y39 r40 q41 h
def wp_X11_readCondition (P : Int32 → RST → Prop)  (r : Nat → Int32) (q : Nat → Nat → Int32) : Prop := (psO r ∧ tsO r) ∧ (∀ (r2 : Nat → Int32) (q3 : Nat → Nat → Int32), (tsP r q 0 r2 q3) → ((¬ (r2 11) = 0 → (∃ k42 : Nat, wp_X11_readCondition_20  P k42 0 0 r2 q3)) ∧ ((r2 11) = 0 → (∃ k43 : Nat, wp_X11_readCondition_20  P k43 0 1 r2 q3))))
set_option maxRecDepth 100000 in
set_option maxHeartbeats 4000000 in
theorem t_X11_readCondition {p : Program} {l : Launch} {e : Env} {s : State} {m : MethodId} {args : Array Value} {below : List Frame} {meth : Method} {c : Code} {D : va_G} {A : Nat → Prop} {T : Nat → ClassId} {m0 : Nat} {a : Nat → Nat} (C : GC p s m args meth c cX11_readCondition "FreightRaterModel" (ws_X11_readCondition) 5 D A (zty T)) (hr : meth.sig.returnType = (some .int)) (P : Int32 → RST → Prop) : ∀  (r : Nat → Int32) (q : Nat → Nat → Int32), wp_X11_readCondition P  r q → GW p l e rm_X11_readCondition s m args below meth c D A 5 0 0 (MQ below (va_Qi P (RE D T m0 a A) A) args s 0 0 A) (RW m0 a T r q) 0 0 0 [(0, .ref m0)] [] := by
  have hw : ∀ {w : Cond}, w ∈ W0 → w.before args s = true := fun h => C.2.2.2.2.1 _ (List.mem_cons_of_mem _ h)
  intro  r q h
  unfold wp_X11_readCondition at h
  refine g_iconst (v := 0) C dX11_readCondition_0 (by decide) ?_
  refine g_istore_n (lv' := [(1, .int 0), (0, .ref m0)]) C dX11_readCondition_1 rfl (by decide) rfl ?_
  refine g_aload_n C dX11_readCondition_2 rfl 1 rfl ?_
  refine g_iload_n C dX11_readCondition_3 rfl 0 rfl ?_
  obtain ⟨g4, h⟩ := h
  refine gr_callvV C [.int 0] rfl (k_X11_readTest l D T m0 a 0 r q g4) (w0_V 1 C.2.2.2.2.1 kw_2070 kw_2072 ks_70 kw_9 kw_2073 rfl rfl (by decide +kernel) ⟨by decide, by decide⟩) rfl (Nat.le_of_ble_eq_true rfl) (Nat.zero_le _) (Nat.zero_le _) dX11_readCondition_4 (fun r2 q3 hp => ?_)
  replace h := h r2 q3 hp
  refine g_aload_n C dX11_readCondition_7 rfl 1 rfl ?_
  refine gr_get C iwx_X11 11 (hw kw_1820) (by decide) rfl rfl dX11_readCondition_8 ?_
  refine g_if_ne (tgt := 18) C dX11_readCondition_11 (by decide) (fun z5 => ?_) (fun z5 => ?_)
  · replace h := h.1 z5
    refine g_iconst (v := 0) C dX11_readCondition_18 (by decide) ?_
    refine g_istore_n (lv' := [(2, .int 0), (1, .int 0), (0, .ref m0)]) C dX11_readCondition_19 rfl (by decide) rfl ?_
    refine g_locals [2, 1, 0] rfl ?_
    obtain ⟨k42, h⟩ := h
    refine t_X11_readCondition_20 C hr  P  k42 0 0 r2 q3 h
  · replace h := h.2 z5
    refine g_iconst (v := 1) C dX11_readCondition_14 (by decide) ?_
    refine g_goto (tgt := 19) C dX11_readCondition_15 (by decide) ?_
    refine g_istore_n (lv' := [(2, .int 1), (1, .int 0), (0, .ref m0)]) C dX11_readCondition_19 rfl (by decide) rfl ?_
    refine g_locals [2, 1, 0] rfl ?_
    obtain ⟨k43, h⟩ := h
    refine t_X11_readCondition_20 C hr  P  k43 0 1 r2 q3 h
theorem c_X11_readCondition (l : Launch) (D : va_G) (T : Nat → ClassId) (m0 : Nat) (a : Nat → Nat)  (r : Nat → Int32) (q : Nat → Nat → Int32) (P : Int32 → RST → Prop) (h : wp_X11_readCondition P  r q) : RMi l yX11_readCondition (ws_X11_readCondition) rm_X11_readCondition D T m0 a [.ref m0] r q P := gr_meti (by decide) rfl rfl (Nat.le_of_ble_eq_true rfl) (fun p e s m args below meth c A C hr => t_X11_readCondition C hr P  r q h)
theorem du_3 : nI 3 = (3 : Int32) := rfl
theorem du_5 : nI 5 = (5 : Int32) := rfl
theorem du_9 : nI 9 = (9 : Int32) := rfl
theorem du_12 : nI 12 = (12 : Int32) := rfl
theorem du_33 : nI 33 = (33 : Int32) := rfl
theorem du_37 : nI 37 = (37 : Int32) := rfl
theorem du_38 : nI 38 = (38 : Int32) := rfl
theorem du_42 : nI 42 = (42 : Int32) := rfl
theorem du_45 : nI 45 = (45 : Int32) := rfl
theorem du_50 : nI 50 = (50 : Int32) := rfl
theorem du_58 : nI 58 = (58 : Int32) := rfl
theorem du_63 : nI 63 = (63 : Int32) := rfl
theorem du_97 : nI 97 = (97 : Int32) := rfl
theorem du_98 : nI 98 = (98 : Int32) := rfl
theorem du_99 : nI 99 = (99 : Int32) := rfl
theorem du_100 : nI 100 = (100 : Int32) := rfl
theorem du_102 : nI 102 = (102 : Int32) := rfl
theorem du_109 : nI 109 = (109 : Int32) := rfl
theorem du_114 : nI 114 = (114 : Int32) := rfl
theorem du_115 : nI 115 = (115 : Int32) := rfl
theorem du_122 : nI 122 = (122 : Int32) := rfl
theorem du_124 : nI 124 = (124 : Int32) := rfl
theorem du_999 : nI 999 = (999 : Int32) := rfl
theorem du_1000 : nI 1000 = (1000 : Int32) := rfl
theorem du_9999 : nI 9999 = (9999 : Int32) := rfl
abbrev TS : Type := Bool × Int32 × Int32 × Int32
/-- the tests of a condition behind its first, with their rows; the last row; the place -/
def cnL (b : Nat → Int32) (n : Nat) : Nat → Nat → PS → List (Nat × TS) × Nat × PS
  | 0, row, σ => ([], row, σ)
  | k + 1, row, σ =>
    if σ.2 = true then ([], row, σ)
    else if tkB b n σ 38 = true then ((row, (tsR b n (tkS b n σ 38)).1) :: (cnL b n k row (tsR b n (tkS b n σ 38)).2).1, (cnL b n k row (tsR b n (tkS b n σ 38)).2).2)
    else if tkB b n σ 124 = true then ((row + 1, (tsR b n (tkS b n σ 124)).1) :: (cnL b n k (row + 1) (tsR b n (tkS b n σ 124)).2).1, (cnL b n k (row + 1) (tsR b n (tkS b n σ 124)).2).2)
    else ([], row, σ)
def cnF (b : Nat → Int32) (n : Nat) (σ : PS) : List (Nat × TS) × Nat × PS := ((0, (tsR b n σ).1) :: (cnL b n 80 0 (tsR b n σ).2).1, (cnL b n 80 0 (tsR b n σ).2).2)
/-- the tests stand in a row of numbers from t0 on -/
def tsK (w : Nat → Int32) (t0 : Nat) (l : List (Nat × TS)) : Prop := ∀ j x, l[j]? = some x → w (t0 + j) = tsE (nI x.1) x.2
theorem tsK.nil {w : Nat → Int32} {t0 : Nat} : tsK w t0 [] := fun j x h => by simp at h
theorem tsK.cons {w : Nat → Int32} {t0 : Nat} {x : Nat × TS} {l : List (Nat × TS)} (h : w t0 = tsE (nI x.1) x.2) (h2 : tsK w (t0 + 1) l) : tsK w t0 (x :: l) := fun j y hy => by
  cases j with
  | zero => simp at hy; rw [← hy]; exact h
  | succ j => simp at hy; have := h2 j y hy; rw [← this]; congr 1; omega
theorem cnL_bad {b : Nat → Int32} {n k row : Nat} {σ : PS} (h : σ.2 = true) : cnL b n k row σ = ([], row, σ) := by
  cases k with
  | zero => rfl
  | succ k => rw [cnL, if_pos h]
theorem cnL_no {b : Nat → Int32} {n k row : Nat} {σ : PS} (h1 : tkB b n σ 38 = false) (h2 : tkB b n σ 124 = false) : cnL b n k row σ = ([], row, σ) := by
  cases k with
  | zero => rfl
  | succ k =>
    rw [cnL, h1, h2]
    split
    · rfl
    · rfl
theorem tkB_gd {b : Nat → Int32} {n : Nat} {σ : PS} {c : Int32} (hc : ¬ c = -1) (h : tkB b n σ c = true) : σ.2 = false ∧ σ.1 < n ∧ tkS b n σ c = (σ.1 + 1, σ.2) := by
  have h0 := h
  unfold tkB at h
  rw [Bool.and_eq_true, decide_eq_true_eq] at h
  refine ⟨?_, sg_in hc h.2, by unfold tkS; rw [if_pos h0]⟩
  cases hs : σ.2 with
  | false => rfl
  | true => rw [hs] at h; cases h.1
theorem cnL_and {b : Nat → Int32} {n k row : Nat} {σ : PS} (h : tkB b n σ 38 = true) : cnL b n (k + 1) row σ = ((row, (tsR b n (tkS b n σ 38)).1) :: (cnL b n k row (tsR b n (tkS b n σ 38)).2).1, (cnL b n k row (tsR b n (tkS b n σ 38)).2).2) := by
  rw [cnL, if_neg (by rw [(tkB_gd (by decide) h).1]; decide), if_pos h]
theorem cnL_or {b : Nat → Int32} {n k row : Nat} {σ : PS} (h1 : tkB b n σ 38 = false) (h : tkB b n σ 124 = true) : cnL b n (k + 1) row σ = ((row + 1, (tsR b n (tkS b n σ 124)).1) :: (cnL b n k (row + 1) (tsR b n (tkS b n σ 124)).2).1, (cnL b n k (row + 1) (tsR b n (tkS b n σ 124)).2).2) := by
  rw [cnL, if_neg (by rw [(tkB_gd (by decide) h).1]; decide), h1, if_neg (by decide), if_pos h]
theorem tkS_no {b : Nat → Int32} {n : Nat} {σ : PS} {c : Int32} (h : tkB b n σ c = false) : tkS b n σ c = σ := by
  unfold tkS
  rw [h]; rfl
/-- what a condition's reading leaves -/
def cnQ (t : List (Nat × TS) × Nat × PS) (r : Nat → Int32) (q : Nat → Nat → Int32) (v : Int32) (r1 : Nat → Int32) (q1 : Nat → Nat → Int32) : Prop := kR r r1 [10, 11, 15] ∧ kQ q q1 [6] ∧ psO r1 ∧ pσ r1 = t.2.2 ∧ ((pσ r1).2 = false → (∀ i, i < iv (r 15) → q1 6 i = q 6 i) ∧ tsO r1 ∧ r1 15 = nI (iv (r 15) + t.1.length) ∧ v = nI (t.2.1 + 1) ∧ tsK (q1 6) (iv (r 15)) t.1)
theorem tsO.tk {r r1 : Nat → Int32} (h : tsO r) (hk : r1 15 = r 15) (hle : (pσ r).1 ≤ (pσ r1).1) : tsO r1 := by
  obtain ⟨t, ht, e⟩ := h
  exact ⟨t, Nat.lt_of_lt_of_le ht hle, hk.trans e⟩
/-- a test ahead of what is read already -/
theorem cnQ.cons {b : Nat → Int32} {n row1 : Nat} {σ1 : PS} {t : List (Nat × TS) × Nat × PS} {r r8 r15 : Nat → Int32} {q q16 : Nat → Nat → Int32} (hb : q 4 = b) (hn : iv (r8 8) = n) (h80 : (pσ r8).1 ≤ 80) (h8 : kR r r8 [10]) (hO : tsO r8) (hσ : pσ r8 = σ1) (ht : tsP r8 q (nI row1) r15 q16) {v : Int32} {r1 : Nat → Int32} {q1 : Nat → Nat → Int32} (hgo : (pσ r1).2 = false → (pσ r15).2 = false) (h : cnQ t r15 q16 v r1 q1) : cnQ ((row1, (tsR b n σ1).1) :: t.1, t.2) r q v r1 q1 := by
  obtain ⟨k1, k2, k3, k4, k5⟩ := h
  obtain ⟨a1, a2, a3, a4, a5, a6⟩ := ht
  refine ⟨(h8.mn (by decide)).tr (a1.tr k1 (fun _ h => h) (fun _ h => h)) (fun _ h => h) (fun _ h => h), a2.tr k2 (fun _ h => h) (fun _ h => h), k3, k4, fun z => ?_⟩
  obtain ⟨b1, b2, b3⟩ := a6 (hgo z)
  obtain ⟨c1, c2, c3, c4, c5⟩ := k5 z
  have e15 : r8 15 = r 15 := h8 15 (by decide)
  rw [e15] at b2 b3 a5
  obtain ⟨t0, ht0, et0⟩ := hO
  have ev : iv (r 15) = t0 := by rw [← e15, et0]; exact nI_clamp (by have : iv (r8 10) = (pσ r8).1 := rfl; omega)
  have hlt : iv (r15 15) = iv (r 15) + 1 := by rw [b2]; exact nI_clamp (by have : iv (r8 10) = (pσ r8).1 := rfl; omega)
  rw [hlt] at c1 c3 c5
  refine ⟨fun i hi => (c1 i (by omega)).trans (a5 i hi), c2, by rw [c3, List.length_cons]; congr 1; omega, c4, tsK.cons ?_ c5⟩
  rw [c1 _ (by omega), b3, hb, hn, hσ]
theorem cnL_gd {b : Nat → Int32} {n : Nat} : ∀ (k row : Nat) (σ : PS), (cnL b n k row σ).2.2.2 = false → σ.2 = false := by
  intro k row σ h
  cases hs : σ.2 with
  | false => rfl
  | true => rw [cnL_bad hs] at h; rw [← h, hs]
theorem rl_cond {P : Int32 → RST → Prop} {b : Nat → Int32} {n : Nat} : ∀ (k row fuel : Nat) (more : Int32) (r : Nat → Int32) (q : Nat → Nat → Int32), q 4 = b → iv (r 8) = n → n ≤ (pσ r).1 + k → k + 1 < fuel → psO r → ((pσ r).2 = false → tsO r) → row + k < 2 ^ 20 → more = (if (pσ r).2 = true then 0 else 1) → (∀ v r1 q1, cnQ (cnL b n k row (pσ r)) r q v r1 q1 → P v (r1, q1)) → wp_X11_readCondition_20 P fuel (nI row) more r q := by
  intro k
  induction k with
  | zero =>
    intro row fuel more r q hb hn hle hf hp hO hrow hm hP
    have t1 : ∀ c : Int32, ¬ c = -1 → tkB b n (pσ r) c = false := fun c hc => by
      cases h : tkB b n (pσ r) c with
      | false => rfl
      | true => have := (tkB_gd hc h).2.1; omega
    obtain ⟨f, rfl⟩ : ∃ f, fuel = f + 1 := ⟨fuel - 1, by omega⟩; rw [wp_X11_readCondition_20]; unfold wb_X11_readCondition_20; dsimp only
    have fin : ∀ r1 : Nat → Int32, kR r r1 [10] → psO r1 → pσ r1 = pσ r → P (nI row + 1) (r1, q) := fun r1 h1 h2 h3 => hP _ _ _ ⟨h1.mn (by decide), kQ.rf, h2, by rw [h3]; rfl, fun z => ⟨fun _ _ => rfl, (hO (by rw [← h3]; exact z)).tk (h1 15 (by decide)) (by rw [h3]; exact Nat.le_refl _), by rw [h1 15 (by decide)]; obtain ⟨t0, ht0, et0⟩ := hO (by rw [← h3]; exact z); rw [et0]; have : iv (r 10) = (pσ r).1 := rfl; have := ps_1 hp; rw [show iv (nI t0) = t0 from nI_clamp (by omega)]; rfl, nI_1 _, tsK.nil⟩⟩
    refine ⟨fun c => fin r kR.rf hp rfl, fun c => ?_⟩
    have hg : (pσ r).2 = false := by
      cases hs : (pσ r).2 with
      | false => rfl
      | true => rw [hm, hs] at c; exact absurd rfl c
    refine ⟨⟨hp, by decide⟩, fun v7 r8 q9 hh => ?_⟩
    obtain ⟨a1, a2, a3, a4, a5⟩ := hh
    subst a2
    rw [hb, hn, t1 38 (by decide)] at a1
    rw [hb, hn, tkS_no (t1 38 (by decide))] at a5
    refine ⟨fun z => absurd a1 z, fun _ => ⟨⟨a4, by decide⟩, fun v29 r30 q31 hh => ?_⟩⟩
    obtain ⟨d1, d2, d3, d4, d5⟩ := hh
    subst d2
    rw [hb, a3 8 (by decide), hn, a5, t1 124 (by decide)] at d1
    rw [hb, a3 8 (by decide), hn, a5, tkS_no (t1 124 (by decide))] at d5
    refine ⟨fun _ => ?_, fun z => absurd d1 z⟩
    unfold wp_X11_readCondition_62
    intro v12 e12
    refine ⟨fun z => absurd a1 z, fun _ => ⟨fun _ => ?_, fun z => absurd rfl z⟩⟩
    obtain ⟨f, rfl⟩ : ∃ g, f = g + 1 := ⟨f - 1, by omega⟩
    rw [wp_X11_readCondition_20]; unfold wb_X11_readCondition_20; dsimp only
    rw [e12, Int32.add_zero]
    exact ⟨fun _ => fin r30 (a3.tr d3 (fun _ h => h) (fun _ h => h)) d4 d5, fun z => absurd rfl z⟩
  | succ k ih =>
    intro row fuel more r q hb hn hle hf hp hO hrow hm hP
    obtain ⟨p1, p2, p3⟩ := ps_1 hp
    obtain ⟨f, rfl⟩ : ∃ f, fuel = f + 1 := ⟨fuel - 1, by omega⟩; rw [wp_X11_readCondition_20]; unfold wb_X11_readCondition_20; dsimp only
    have fin : (cnL b n (k + 1) row (pσ r) = ([], row, pσ r)) → ∀ r1 : Nat → Int32, kR r r1 [10] → psO r1 → pσ r1 = pσ r → P (nI row + 1) (r1, q) := fun hc r1 h1 h2 h3 => hP _ _ _ (by
      rw [hc]
      exact ⟨h1.mn (by decide), kQ.rf, h2, h3, fun z => ⟨fun _ _ => rfl, (hO (by rw [← h3]; exact z)).tk (h1 15 (by decide)) (by rw [h3]; exact Nat.le_refl _), by rw [h1 15 (by decide)]; obtain ⟨t0, ht0, et0⟩ := hO (by rw [← h3]; exact z); rw [et0]; have : iv (r 10) = (pσ r).1 := rfl; rw [show iv (nI t0) = t0 from nI_clamp (by omega)]; rfl, nI_1 _, tsK.nil⟩⟩)
    refine ⟨fun c => fin (cnL_bad (by
      cases hs : (pσ r).2 with
      | true => rfl
      | false => rw [hm, hs] at c; exact absurd c (by decide))) r kR.rf hp rfl, fun c => ?_⟩
    have hg : (pσ r).2 = false := by
      cases hs : (pσ r).2 with
      | false => rfl
      | true => rw [hm, hs] at c; exact absurd rfl c
    -- a test behind a sign
    have go : ∀ (row1 : Nat) (r8 : Nat → Int32) (c : Int32), ¬ c = -1 → tkB b n (pσ r) c = true → kR r r8 [10] → psO r8 → pσ r8 = tkS b n (pσ r) c → row1 + k < 2 ^ 20 → (cnL b n (k + 1) row (pσ r) = ((row1, (tsR b n (tkS b n (pσ r) c)).1) :: (cnL b n k row1 (tsR b n (tkS b n (pσ r) c)).2).1, (cnL b n k row1 (tsR b n (tkS b n (pσ r) c)).2).2)) → (psO r8 ∧ tsO r8) ∧ (∀ (r15 : Nat → Int32) (q16 : Nat → Nat → Int32), (tsP r8 q (nI row1) r15 q16) → ((¬ (r15 11) = 0 → (wp_X11_readCondition_20 P f (nI row1) 0 r15 q16)) ∧ ((r15 11) = 0 → (wp_X11_readCondition_20 P f (nI row1) 1 r15 q16)))) := by
      intro row1 r8 c hc ht h8 hp8 hσ hr1 hcn
      obtain ⟨g1, g2, g3⟩ := tkB_gd hc ht
      have e88 : iv (r8 8) = n := by rw [h8 8 (by decide)]; exact hn
      have h1 : (pσ r8).1 = (pσ r).1 + 1 := by rw [hσ, g3]
      have hO8 : tsO r8 := (hO hg).tk (h8 15 (by decide)) (by omega)
      refine ⟨⟨hp8, hO8⟩, fun r15 q16 hts => ?_⟩
      have hts0 := hts
      obtain ⟨a1, a2, a3, a4, a5, a6⟩ := hts
      have hok := tsR_ok (b := q 4) (n := iv (r8 8)) (σ := pσ r8) (ps_1 hp8).1
      rw [hb, e88] at a4
      rw [hb, e88] at hok
      have e15 : iv (r15 8) = n := by rw [a1 8 (by decide)]; exact e88
      have mb := pb_of a3.2.2
      have all : wp_X11_readCondition_20 P f (nI row1) (if (pσ r15).2 = true then 0 else 1) r15 q16 := by
        refine ih row1 f _ r15 q16 (by rw [a2 4 (by decide)]; exact hb) e15 (by rw [a4]; omega) (by omega) a3 (fun z => (a6 z).1) (by omega) rfl (fun v r1 q1 hq => hP v r1 q1 ?_)
        have hgo : (pσ r1).2 = false → (pσ r15).2 = false := fun zz => cnL_gd k row1 _ (by rw [← hq.2.2.2.1]; exact zz)
        have w9 := cnQ.cons (t := cnL b n k row1 (pσ r15)) hb e88 (by have := ps_1 hp8; omega) h8 hO8 rfl hts0 hgo hq
        rw [hcn, ← hσ, ← a4]
        exact w9
      refine ⟨fun z => ?_, fun z => ?_⟩
      · have : (pσ r15).2 = true := by
          cases hs : (pσ r15).2 with
          | true => rfl
          | false => exact absurd (mb.mpr hs) z
        rw [this] at all
        exact all
      · rw [mb.mp z] at all
        exact all
    refine ⟨⟨hp, by decide⟩, fun v7 r8 q9 hh => ?_⟩
    obtain ⟨a1, a2, a3, a4, a5⟩ := hh
    subst a2
    rw [hb, hn] at a1 a5
    refine ⟨fun z => ?_, fun z => ?_⟩
    · have t38 : tkB b n (pσ r) 38 = true := by
        cases h : tkB b n (pσ r) 38 with
        | true => rfl
        | false => rw [h] at a1; exact absurd a1 z
      unfold wp_X11_readCondition_62
      intro v12 e12
      rw [Int32.add_zero] at e12
      subst e12
      exact ⟨fun _ => go row r8 38 (by decide) t38 a3 a4 a5 (by omega) (cnL_and t38), fun y => absurd y z⟩
    · have t38 : tkB b n (pσ r) 38 = false := (b2i_0 _).mp (a1.symm.trans z)
      rw [tkS_no t38] at a5
      refine ⟨⟨a4, by decide⟩, fun v29 r30 q31 hh => ?_⟩
      obtain ⟨d1, d2, d3, d4, d5⟩ := hh
      subst d2
      rw [hb, a3 8 (by decide), hn, a5] at d1 d5
      have k30 : kR r r30 [10] := a3.tr d3 (fun _ h => h) (fun _ h => h)
      refine ⟨fun y => ?_, fun y => ?_⟩
      · have t124 : tkB b n (pσ r) 124 = false := (b2i_0 _).mp (d1.symm.trans y)
        rw [tkS_no t124] at d5
        unfold wp_X11_readCondition_62
        intro v12 e12
        refine ⟨fun x => absurd z x, fun _ => ⟨fun _ => ?_, fun x => absurd rfl x⟩⟩
        obtain ⟨f, rfl⟩ : ∃ g, f = g + 1 := ⟨f - 1, by omega⟩
        rw [wp_X11_readCondition_20]; unfold wb_X11_readCondition_20; dsimp only
        rw [e12, Int32.add_zero]
        exact ⟨fun _ => fin (cnL_no t38 t124) r30 k30 d4 d5, fun x => absurd rfl x⟩
      · have t124 : tkB b n (pσ r) 124 = true := by
          cases h : tkB b n (pσ r) 124 with
          | true => rfl
          | false => rw [h] at d1; exact absurd d1 y
        unfold wp_X11_readCondition_62
        intro v12 e12
        rw [nI_1] at e12
        subst e12
        exact ⟨fun x => absurd z x, fun _ => ⟨fun x => absurd x (by decide), fun _ => go (row + 1) r30 124 (by decide) t124 k30 d4 d5 (by omega) (cnL_or t38 t124)⟩⟩
theorem k_X11_readCondition (l : Launch) (D : va_G) (T : Nat → ClassId) (m0 : Nat) (a : Nat → Nat)  (r : Nat → Int32) (q : Nat → Nat → Int32) (h : psO r ∧ tsO r) : RMi l yX11_readCondition (ws_X11_readCondition) rm_X11_readCondition D T m0 a [.ref m0] r q (fun v u => (cnQ (cnF (q 4) (iv (r 8)) (pσ r)) r q v u.1 u.2)) := c_X11_readCondition l D T m0 a  r q _ <|
  (by
    obtain ⟨hp, hO⟩ := h
    obtain ⟨p1, p2, p3⟩ := ps_1 hp
    unfold wp_X11_readCondition
    refine ⟨⟨hp, hO⟩, fun r2 q3 hts => ?_⟩
    have hts0 := hts
    obtain ⟨a1, a2, a3, a4, a5, a6⟩ := hts
    have mb := pb_of a3.2.2
    have e8 : iv (r2 8) = iv (r 8) := by rw [a1 8 (by decide)]
    have all : wp_X11_readCondition_20 (fun v u => cnQ (cnF (q 4) (iv (r 8)) (pσ r)) r q v u.1 u.2) 100 0 (if (pσ r2).2 = true then 0 else 1) r2 q3 := by
      refine rl_cond (n := iv (r 8)) 80 0 100 _ r2 q3 (a2 4 (by decide)) e8 (by omega) (by omega) a3 (fun z => (a6 z).1) (by omega) rfl (fun v r1 q1 hq => ?_)
      unfold cnF
      rw [← a4]
      have hgo : (pσ r1).2 = false → (pσ r2).2 = false := fun zz => cnL_gd 80 0 _ (by rw [← hq.2.2.2.1]; exact zz)
      exact cnQ.cons (t := cnL (q 4) (iv (r 8)) 80 0 (pσ r2)) rfl rfl (by omega) kR.rf hO rfl hts0 hgo hq
    refine ⟨fun z => ⟨100, ?_⟩, fun z => ⟨100, ?_⟩⟩
    · have : (pσ r2).2 = true := by
        cases hs : (pσ r2).2 with
        | true => rfl
        | false => exact absurd (mb.mpr hs) z
      rw [this] at all
      exact all
    · rw [mb.mp z] at all
      exact all)

end S_RGS
