section S_R4S
abbrev ws_X11_extras : List Cond := Cond.code yX11_extras cX11_extras 4 (some .int) :: W0
abbrev rm_X11_extras : Room := ({ frames := 2, cells := 0, slots := 0, locals := 41 } : Room)
def wb_X11_extras_4 (rec : Int32 → Int32 → Int32 → (Nat → Int32) → (Nat → Nat → Int32) → Prop) (P : Int32 → RST → Prop) (x1 : Int32) (x2 : Int32) (x3 : Int32) (r : Nat → Int32) (q : Nat → Nat → Int32) : Prop := (10 ≤ x3 → (P x2 (r, q))) ∧ (¬ 10 ≤ x3 → (vp_in (274 + 510 * x1 + 150 + 36 * x3) 3334 ∧ ((¬ (q 0 (Int32.toNatClampNeg (274 + 510 * x1 + 150 + 36 * x3))) = 1 → (∀ v4 : Int32, v4 = (x2 ||| 0) → (∀ v5 : Int32, v5 = x3 + 1 → (rec x1 v4 v5 r q)))) ∧ ((q 0 (Int32.toNatClampNeg (274 + 510 * x1 + 150 + 36 * x3))) = 1 → (∀ v6 : Int32, v6 = (x2 ||| (1 <<< (x3 &&& 31))) → (∀ v7 : Int32, v7 = x3 + 1 → (rec x1 v6 v7 r q)))))))
def wp_X11_extras_4 (P : Int32 → RST → Prop) : Nat → Int32 → Int32 → Int32 → (Nat → Int32) → (Nat → Nat → Int32) → Prop
  | 0 => fun _ _ _ _ _ => False
  | n + 1 => fun x1 x2 x3 r q => wb_X11_extras_4 (wp_X11_extras_4  P n)  P x1 x2 x3 r q
set_option maxRecDepth 100000 in
set_option maxHeartbeats 4000000 in
theorem t_X11_extras_4 {p : Program} {l : Launch} {e : Env} {s : State} {m : MethodId} {args : Array Value} {below : List Frame} {meth : Method} {c : Code} {D : va_G} {A : Nat → Prop} {T : Nat → ClassId} {m0 : Nat} {a : Nat → Nat} (C : GC p s m args meth c cX11_extras "FreightRaterModel" (ws_X11_extras) 4 D A (zty T)) (hr : meth.sig.returnType = (some .int)) (P : Int32 → RST → Prop) : ∀ (n : Nat) (x1 : Int32) (x2 : Int32) (x3 : Int32) (r : Nat → Int32) (q : Nat → Nat → Int32), wp_X11_extras_4  P n x1 x2 x3 r q → GW p l e rm_X11_extras s m args below meth c D A 4 0 0 (MQ below (va_Qi P (RE D T m0 a A) A) args s 0 0 A) (RW m0 a T r q) 0 0 4 [(0, .ref m0), (1, .int x1), (2, .int x2), (3, .int x3)] [] := by
  have hw : ∀ {w : Cond}, w ∈ W0 → w.before args s = true := fun h => C.2.2.2.2.1 _ (List.mem_cons_of_mem _ h)
  intro n
  induction n with
  | zero => intro x1 x2 x3 r q h; exact h.elim
  | succ n ih =>
    intro x1 x2 x3 r q h
    replace h : wb_X11_extras_4 (wp_X11_extras_4  P n)  P x1 x2 x3 r q := h
    unfold wb_X11_extras_4 at h
    refine g_iload_n C dX11_extras_4 rfl 3 rfl ?_
    refine g_bipush (v := 10) C dX11_extras_5 (by decide) ?_
    refine g_icmp_ge (tgt := 40) C dX11_extras_7 (by decide) (fun z1 => ?_) (fun z1 => ?_)
    · replace h := h.1 z1
      refine g_iload_n C dX11_extras_40 rfl 2 rfl ?_
      exact gr_iret C hr dX11_extras_41 h
    · replace h := h.2 z1
      refine g_iload_n C dX11_extras_10 rfl 2 rfl ?_
      refine g_aload_n C dX11_extras_11 rfl 0 rfl ?_
      refine gr_get C iwx_X11 0 (hw kw_1809) (by decide) rfl rfl dX11_extras_12 ?_
      refine g_iload_n C dX11_extras_15 rfl 1 rfl ?_
      refine g_iload_n C dX11_extras_16 rfl 3 rfl ?_
      refine gr_callSf C [.int x1, .int x3] rfl (k_X11_extra l D T m0 a x1 x3 r q) (w0_S 2 C.2.2.2.2.1 kw_1978 kw_1979 kw_9 kw_1980 rfl rfl (by decide +kernel) ⟨by decide, by decide⟩) rfl (Nat.le_of_ble_eq_true rfl) (Nat.zero_le _) (Nat.zero_le _) dX11_extras_17 ?_
      obtain ⟨g2, h⟩ := h
      refine gr_ald_0 C g2 dX11_extras_20 ?_
      refine g_iconst (v := 1) C dX11_extras_21 (by decide) ?_
      refine g_icmp_ne (tgt := 31) C dX11_extras_22 (by decide) (fun z3 => ?_) (fun z3 => ?_)
      · replace h := h.1 z3
        refine g_iconst (v := 0) C dX11_extras_31 (by decide) ?_
        refine g_ior C dX11_extras_32 ?_
        refine g_topi (fun v4 ev4 => ?_)
        replace h := h v4 ev4
        refine g_istore_n (lv' := [(2, .int v4), (0, .ref m0), (1, .int x1), (3, .int x3)]) C dX11_extras_33 rfl (by decide) rfl ?_
        obtain ⟨v5, ev5⟩ : ∃ y : Int32, y = x3 + 1 := ⟨_, rfl⟩
        replace h := h v5 ev5
        refine g_iinc (v := v5) (lv' := [(3, .int v5), (2, .int v4), (0, .ref m0), (1, .int x1)]) C dX11_extras_34 (j := 3) rfl (by rw [ev5]; rfl) (by decide) rfl ?_
        refine g_goto (tgt := 4) C dX11_extras_37 (by decide) ?_
        refine g_locals [2, 3, 1, 0] rfl ?_
        exact ih x1 v4 v5 r q h
      · replace h := h.2 z3
        refine g_iconst (v := 1) C dX11_extras_25 (by decide) ?_
        refine g_iload_n C dX11_extras_26 rfl 3 rfl ?_
        refine g_ishl C dX11_extras_27 ?_
        refine g_goto (tgt := 32) C dX11_extras_28 (by decide) ?_
        refine g_ior C dX11_extras_32 ?_
        refine g_topi (fun v6 ev6 => ?_)
        replace h := h v6 ev6
        refine g_istore_n (lv' := [(2, .int v6), (0, .ref m0), (1, .int x1), (3, .int x3)]) C dX11_extras_33 rfl (by decide) rfl ?_
        obtain ⟨v7, ev7⟩ : ∃ y : Int32, y = x3 + 1 := ⟨_, rfl⟩
        replace h := h v7 ev7
        refine g_iinc (v := v7) (lv' := [(3, .int v7), (2, .int v6), (0, .ref m0), (1, .int x1)]) C dX11_extras_34 (j := 3) rfl (by rw [ev7]; rfl) (by decide) rfl ?_
        refine g_goto (tgt := 4) C dX11_extras_37 (by decide) ?_
        refine g_locals [2, 3, 1, 0] rfl ?_
        exact ih x1 v6 v7 r q h
def wp_X11_extras (P : Int32 → RST → Prop) (p0 : Int32) (r : Nat → Int32) (q : Nat → Nat → Int32) : Prop := ∃ k8 : Nat, wp_X11_extras_4  P k8 p0 0 0 r q
set_option maxRecDepth 100000 in
set_option maxHeartbeats 4000000 in
theorem t_X11_extras {p : Program} {l : Launch} {e : Env} {s : State} {m : MethodId} {args : Array Value} {below : List Frame} {meth : Method} {c : Code} {D : va_G} {A : Nat → Prop} {T : Nat → ClassId} {m0 : Nat} {a : Nat → Nat} (C : GC p s m args meth c cX11_extras "FreightRaterModel" (ws_X11_extras) 4 D A (zty T)) (hr : meth.sig.returnType = (some .int)) (P : Int32 → RST → Prop) : ∀ (p0 : Int32) (r : Nat → Int32) (q : Nat → Nat → Int32), wp_X11_extras P p0 r q → GW p l e rm_X11_extras s m args below meth c D A 4 0 0 (MQ below (va_Qi P (RE D T m0 a A) A) args s 0 0 A) (RW m0 a T r q) 0 0 0 [(0, .ref m0), (1, .int p0)] [] := by
  have hw : ∀ {w : Cond}, w ∈ W0 → w.before args s = true := fun h => C.2.2.2.2.1 _ (List.mem_cons_of_mem _ h)
  intro p0 r q h
  unfold wp_X11_extras at h
  refine g_iconst (v := 0) C dX11_extras_0 (by decide) ?_
  refine g_istore_n (lv' := [(2, .int 0), (0, .ref m0), (1, .int p0)]) C dX11_extras_1 rfl (by decide) rfl ?_
  refine g_iconst (v := 0) C dX11_extras_2 (by decide) ?_
  refine g_istore_n (lv' := [(3, .int 0), (2, .int 0), (0, .ref m0), (1, .int p0)]) C dX11_extras_3 rfl (by decide) rfl ?_
  refine g_locals [2, 3, 1, 0] rfl ?_
  obtain ⟨k8, h⟩ := h
  refine t_X11_extras_4 C hr  P  k8 p0 0 0 r q h
theorem c_X11_extras (l : Launch) (D : va_G) (T : Nat → ClassId) (m0 : Nat) (a : Nat → Nat) (p0 : Int32) (r : Nat → Int32) (q : Nat → Nat → Int32) (P : Int32 → RST → Prop) (h : wp_X11_extras P p0 r q) : RMi l yX11_extras (ws_X11_extras) rm_X11_extras D T m0 a [.ref m0, .int p0] r q P := gr_meti (by decide) rfl rfl (Nat.le_of_ble_eq_true rfl) (fun p e s m args below meth c A C hr => t_X11_extras C hr P p0 r q h)
theorem rl_extras {P : Int32 → RST → Prop} {r : Nat → Int32} {q : Nat → Nat → Int32} {v : Nat} (hv : v < 6) : ∀ (k a fuel : Nat) (s : Int32), a + k = 10 → k < fuel → P (eFold (q 0) v k a s) (r, q) → wp_X11_extras_4 P fuel (nI v) s (nI a) r q := by
  intro k
  induction k with
  | zero =>
    intro a fuel s ha hf hp
    obtain ⟨f, rfl⟩ : ∃ f, fuel = f + 1 := ⟨fuel - 1, by omega⟩; rw [wp_X11_extras_4]; unfold wb_X11_extras_4; dsimp only
    simp (disch := omega) only [li_2, li_3, li_4, li_5, li_6, li_7, li_8, li_9, li_10, li_12, li_14, li_20, li_26, li_30, li_31, li_36, li_38, li_47, li_48, li_50, li_57, li_58, li_80, li_98, li_99, li_100, li_102, li_104, li_105, li_108, li_109, li_110, li_114, li_115, li_119, li_122, li_137, li_146, li_147, li_148, li_149, li_150, li_200, li_255, li_256, li_274, li_510, li_512, li_640, li_999, li_1000, li_1024, li_3334, li_5000, li_9999, li_10000, li_23338, li_26672, li_30000, li_99999, li_150000, li_300000, pk_mul, nI_add, pk_sub, nI_clamp, nI_1, nI_p1, nI_a0, nI_0a, nI_m0, nI_m1, cl_0, cl_1, z01, z11, nI_leI, nI_ltI, nI_eq, nz_lt0, nz_le, nz_eq0, nz_pos, nz_le0, nz_eq1, nz_lt1, nz_ge1, nz_le1, nz_gt1, nz_vp, nz_vp0, nz_vp1, six_nI, vix_nI, bix_nI, pix_nI, fix_nI, gix_nI, rix_nI, zix_nI, pix_0, pix_1, bix_0, fix_0, fix_1, rix_1, true_and, and_true]
    exact ⟨fun _ => hp, fun h => absurd h (by omega)⟩
  | succ k ih =>
    intro a fuel s ha hf hp
    obtain ⟨f, rfl⟩ : ∃ f, fuel = f + 1 := ⟨fuel - 1, by omega⟩; rw [wp_X11_extras_4]; unfold wb_X11_extras_4; dsimp only
    rw [eFold] at hp
    simp (disch := omega) only [li_2, li_3, li_4, li_5, li_6, li_7, li_8, li_9, li_10, li_12, li_14, li_20, li_26, li_30, li_31, li_36, li_38, li_47, li_48, li_50, li_57, li_58, li_80, li_98, li_99, li_100, li_102, li_104, li_105, li_108, li_109, li_110, li_114, li_115, li_119, li_122, li_137, li_146, li_147, li_148, li_149, li_150, li_200, li_255, li_256, li_274, li_510, li_512, li_640, li_999, li_1000, li_1024, li_3334, li_5000, li_9999, li_10000, li_23338, li_26672, li_30000, li_99999, li_150000, li_300000, pk_mul, nI_add, pk_sub, nI_clamp, nI_1, nI_p1, nI_a0, nI_0a, nI_m0, nI_m1, cl_0, cl_1, z01, z11, nI_leI, nI_ltI, nI_eq, nz_lt0, nz_le, nz_eq0, nz_pos, nz_le0, nz_eq1, nz_lt1, nz_ge1, nz_le1, nz_gt1, nz_vp, nz_vp0, nz_vp1, six_nI, vix_nI, bix_nI, pix_nI, fix_nI, gix_nI, rix_nI, zix_nI, pix_0, pix_1, bix_0, fix_0, fix_1, rix_1, true_and, and_true]
    refine ⟨fun h => absurd h (by omega), fun _ => ⟨by omega, fun c v4 e4 v5 e5 => ?_, fun c v6 e6 v7 e7 => ?_⟩⟩
    · subst e4 e5
      rw [if_neg c] at hp
      exact ih (a + 1) f _ (by omega) (by omega) hp
    · subst e6 e7
      rw [if_pos c] at hp
      exact ih (a + 1) f _ (by omega) (by omega) hp
theorem k_X11_extras (l : Launch) (D : va_G) (T : Nat → ClassId) (m0 : Nat) (a : Nat → Nat) (p0 : Int32) (r : Nat → Int32) (q : Nat → Nat → Int32) (h : vix p0) : RMi l yX11_extras (ws_X11_extras) rm_X11_extras D T m0 a [.ref m0, .int p0] r q (fun v u => v = (eSet (q 0) (iv p0)) ∧ u = (r, q)) := c_X11_extras l D T m0 a p0 r q _ <|
  (by
    obtain ⟨v, hv, rfl⟩ := h
    unfold wp_X11_extras
    refine ⟨11, rl_extras (P := fun v_1 u => v_1 = eSet (q 0) (iv (nI v)) ∧ u = (r, q)) hv 10 0 _ 0 (by omega) (by omega) ⟨?_, rfl⟩⟩
    unfold eSet
    simp (disch := omega) only [li_2, li_3, li_4, li_5, li_6, li_7, li_8, li_9, li_10, li_12, li_14, li_20, li_26, li_30, li_31, li_36, li_38, li_47, li_48, li_50, li_57, li_58, li_80, li_98, li_99, li_100, li_102, li_104, li_105, li_108, li_109, li_110, li_114, li_115, li_119, li_122, li_137, li_146, li_147, li_148, li_149, li_150, li_200, li_255, li_256, li_274, li_510, li_512, li_640, li_999, li_1000, li_1024, li_3334, li_5000, li_9999, li_10000, li_23338, li_26672, li_30000, li_99999, li_150000, li_300000, pk_mul, nI_add, pk_sub, nI_clamp, nI_1, nI_p1, nI_a0, nI_0a, nI_m0, nI_m1, cl_0, cl_1, z01, z11])
abbrev ws_X11_baseOf : List Cond := Cond.code yX11_baseOf cX11_baseOf 5 (some .int) :: W0
abbrev rm_X11_baseOf : Room := ({ frames := 3, cells := 0, slots := 0, locals := 67 } : Room)
def wb_X11_baseOf_8 (rec : Int32 → Int32 → Int32 → Int32 → (Nat → Int32) → (Nat → Nat → Int32) → Prop) (P : Int32 → RST → Prop) (x1 : Int32) (x2 : Int32) (x3 : Int32) (x4 : Int32) (r : Nat → Int32) (q : Nat → Nat → Int32) : Prop := (vix x1 ∧ zix x2) ∧ (((q 0 (274 + 510 * iv x1 + 38 + iv x2 - 1)) ≤ x4 → ((vix x1 ∧ zix x2 ∧ bix (r 7)) ∧ ((vix x1 ∧ zix x2) ∧ (P (if (amtF (q 0) (iv x1) (iv x2) (iv (r 7)) x3) < (q 0 (274 + 510 * iv x1 + 137 + iv x2 - 1)) then (q 0 (274 + 510 * iv x1 + 137 + iv x2 - 1)) else (amtF (q 0) (iv x1) (iv x2) (iv (r 7)) x3)) (r, q))))) ∧ (¬ (q 0 (274 + 510 * iv x1 + 38 + iv x2 - 1)) ≤ x4 → ((vix x1 ∧ zix x2 ∧ bix x4) ∧ ((vix x1 ∧ zix x2 ∧ bix (r 7)) ∧ (((amtF (q 0) (iv x1) (iv x2) (iv (r 7)) x3) ≤ (amtF (q 0) (iv x1) (iv x2) (iv x4) x3) → (∀ r9 : Nat → Int32, r9 = va_up r 7 (r 7) → (∀ v10 : Int32, v10 = x4 + 1 → (rec x1 x2 x3 v10 r9 q)))) ∧ (¬ (amtF (q 0) (iv x1) (iv x2) (iv (r 7)) x3) ≤ (amtF (q 0) (iv x1) (iv x2) (iv x4) x3) → (∀ r11 : Nat → Int32, r11 = va_up r 7 x4 → (∀ v12 : Int32, v12 = x4 + 1 → (rec x1 x2 x3 v12 r11 q)))))))))
def wp_X11_baseOf_8 (P : Int32 → RST → Prop) : Nat → Int32 → Int32 → Int32 → Int32 → (Nat → Int32) → (Nat → Nat → Int32) → Prop
  | 0 => fun _ _ _ _ _ _ => False
  | n + 1 => fun x1 x2 x3 x4 r q => wb_X11_baseOf_8 (wp_X11_baseOf_8  P n)  P x1 x2 x3 x4 r q
set_option maxRecDepth 100000 in
set_option maxHeartbeats 4000000 in
theorem t_X11_baseOf_8 {p : Program} {l : Launch} {e : Env} {s : State} {m : MethodId} {args : Array Value} {below : List Frame} {meth : Method} {c : Code} {D : va_G} {A : Nat → Prop} {T : Nat → ClassId} {m0 : Nat} {a : Nat → Nat} (C : GC p s m args meth c cX11_baseOf "FreightRaterModel" (ws_X11_baseOf) 5 D A (zty T)) (hr : meth.sig.returnType = (some .int)) (P : Int32 → RST → Prop) : ∀ (n : Nat) (x1 : Int32) (x2 : Int32) (x3 : Int32) (x4 : Int32) (r : Nat → Int32) (q : Nat → Nat → Int32), wp_X11_baseOf_8  P n x1 x2 x3 x4 r q → GW p l e rm_X11_baseOf s m args below meth c D A 5 0 0 (MQ below (va_Qi P (RE D T m0 a A) A) args s 0 0 A) (RW m0 a T r q) 0 0 8 [(0, .ref m0), (1, .int x1), (2, .int x2), (3, .int x3), (4, .int x4)] [] := by
  have hw : ∀ {w : Cond}, w ∈ W0 → w.before args s = true := fun h => C.2.2.2.2.1 _ (List.mem_cons_of_mem _ h)
  intro n
  induction n with
  | zero => intro x1 x2 x3 x4 r q h; exact h.elim
  | succ n ih =>
    intro x1 x2 x3 x4 r q h
    replace h : wb_X11_baseOf_8 (wp_X11_baseOf_8  P n)  P x1 x2 x3 x4 r q := h
    unfold wb_X11_baseOf_8 at h
    refine g_iload C dX11_baseOf_8 4 rfl ?_
    refine g_aload_n C dX11_baseOf_10 rfl 0 rfl ?_
    refine g_iload_n C dX11_baseOf_11 rfl 1 rfl ?_
    refine g_iload_n C dX11_baseOf_12 rfl 2 rfl ?_
    obtain ⟨g2, h⟩ := h
    refine gr_callVf C [.int x1, .int x2] rfl (k_X11_breaks l D T m0 a x1 x2 r q g2) (w0_V 2 C.2.2.2.2.1 kw_1997 kw_1999 ks_57 kw_9 kw_2000 rfl rfl (by decide +kernel) ⟨by decide, by decide⟩) rfl (Nat.le_of_ble_eq_true rfl) (Nat.zero_le _) (Nat.zero_le _) dX11_baseOf_13 ?_
    refine g_icmp_ge (tgt := 61) C dX11_baseOf_16 (by decide) (fun z3 => ?_) (fun z3 => ?_)
    · replace h := h.1 z3
      refine g_aload_n C dX11_baseOf_61 rfl 0 rfl ?_
      refine g_iload_n C dX11_baseOf_62 rfl 1 rfl ?_
      refine g_iload_n C dX11_baseOf_63 rfl 2 rfl ?_
      refine g_aload_n C dX11_baseOf_64 rfl 0 rfl ?_
      refine gr_get C iwx_X11 7 (hw kw_1816) (by decide) rfl rfl dX11_baseOf_65 ?_
      refine g_iload_n C dX11_baseOf_68 rfl 3 rfl ?_
      obtain ⟨g4, h⟩ := h
      refine gr_callVf C [.int x1, .int x2, .int (r 7), .int x3] rfl (k_X11_amountBy l D T m0 a x1 x2 (r 7) x3 r q g4) (w0_V 4 C.2.2.2.2.1 kw_2021 kw_2023 ks_60 kw_9 kw_2024 rfl rfl (by decide +kernel) ⟨by decide, by decide⟩) rfl (Nat.le_of_ble_eq_true rfl) (Nat.zero_le _) (Nat.zero_le _) dX11_baseOf_69 ?_
      refine g_aload_n C dX11_baseOf_72 rfl 0 rfl ?_
      refine g_iload_n C dX11_baseOf_73 rfl 1 rfl ?_
      refine g_iload_n C dX11_baseOf_74 rfl 2 rfl ?_
      obtain ⟨g5, h⟩ := h
      refine gr_callVf C [.int x1, .int x2] rfl (k_X11_minimum l D T m0 a x1 x2 r q g5) (w0_V 2 C.2.2.2.2.1 kw_2001 kw_2003 ks_58 kw_9 kw_2004 rfl rfl (by decide +kernel) ⟨by decide, by decide⟩) rfl (Nat.le_of_ble_eq_true rfl) (Nat.zero_le _) (Nat.zero_le _) dX11_baseOf_75 ?_
      refine g_mmax C (hw kw_2025) (hw kw_626) (hw kw_18) (hw kw_627) (by decide) (Nat.le_of_ble_eq_true rfl) (Nat.zero_le _) (Nat.zero_le _) dX11_baseOf_78 ?_
      exact gr_iret C hr dX11_baseOf_81 h
    · replace h := h.2 z3
      refine g_aload_n C dX11_baseOf_19 rfl 0 rfl ?_
      refine g_aload_n C dX11_baseOf_20 rfl 0 rfl ?_
      refine g_iload_n C dX11_baseOf_21 rfl 1 rfl ?_
      refine g_iload_n C dX11_baseOf_22 rfl 2 rfl ?_
      refine g_iload C dX11_baseOf_23 4 rfl ?_
      refine g_iload_n C dX11_baseOf_25 rfl 3 rfl ?_
      obtain ⟨g6, h⟩ := h
      refine gr_callVf C [.int x1, .int x2, .int x4, .int x3] rfl (k_X11_amountBy l D T m0 a x1 x2 x4 x3 r q g6) (w0_V 4 C.2.2.2.2.1 kw_2021 kw_2023 ks_60 kw_9 kw_2024 rfl rfl (by decide +kernel) ⟨by decide, by decide⟩) rfl (Nat.le_of_ble_eq_true rfl) (Nat.zero_le _) (Nat.zero_le _) dX11_baseOf_26 ?_
      refine g_aload_n C dX11_baseOf_29 rfl 0 rfl ?_
      refine g_iload_n C dX11_baseOf_30 rfl 1 rfl ?_
      refine g_iload_n C dX11_baseOf_31 rfl 2 rfl ?_
      refine g_aload_n C dX11_baseOf_32 rfl 0 rfl ?_
      refine gr_get C iwx_X11 7 (hw kw_1816) (by decide) rfl rfl dX11_baseOf_33 ?_
      refine g_iload_n C dX11_baseOf_36 rfl 3 rfl ?_
      obtain ⟨g7, h⟩ := h
      refine gr_callVf C [.int x1, .int x2, .int (r 7), .int x3] rfl (k_X11_amountBy l D T m0 a x1 x2 (r 7) x3 r q g7) (w0_V 4 C.2.2.2.2.1 kw_2021 kw_2023 ks_60 kw_9 kw_2024 rfl rfl (by decide +kernel) ⟨by decide, by decide⟩) rfl (Nat.le_of_ble_eq_true rfl) (Nat.zero_le _) (Nat.zero_le _) dX11_baseOf_37 ?_
      refine g_icmp_ge (tgt := 48) C dX11_baseOf_40 (by decide) (fun z8 => ?_) (fun z8 => ?_)
      · replace h := h.1 z8
        refine g_aload_n C dX11_baseOf_48 rfl 0 rfl ?_
        refine gr_get C iwx_X11 7 (hw kw_1816) (by decide) rfl rfl dX11_baseOf_49 ?_
        refine gr_put_7 C iwx_X11 (hw kw_1816) dX11_baseOf_52 ?_
        refine gr_nr (fun r9 er9 => ?_)
        replace h := h r9 er9
        obtain ⟨v10, ev10⟩ : ∃ y : Int32, y = x4 + 1 := ⟨_, rfl⟩
        replace h := h v10 ev10
        refine g_iinc (v := v10) (lv' := [(4, .int v10), (0, .ref m0), (1, .int x1), (2, .int x2), (3, .int x3)]) C dX11_baseOf_55 (j := 4) rfl (by rw [ev10]; rfl) (by decide) rfl ?_
        refine g_goto (tgt := 8) C dX11_baseOf_58 (by decide) ?_
        refine g_locals [1, 2, 3, 4, 0] rfl ?_
        exact ih x1 x2 x3 v10 r9 q h
      · replace h := h.2 z8
        refine g_iload C dX11_baseOf_43 4 rfl ?_
        refine g_goto (tgt := 52) C dX11_baseOf_45 (by decide) ?_
        refine gr_put_7 C iwx_X11 (hw kw_1816) dX11_baseOf_52 ?_
        refine gr_nr (fun r11 er11 => ?_)
        replace h := h r11 er11
        obtain ⟨v12, ev12⟩ : ∃ y : Int32, y = x4 + 1 := ⟨_, rfl⟩
        replace h := h v12 ev12
        refine g_iinc (v := v12) (lv' := [(4, .int v12), (0, .ref m0), (1, .int x1), (2, .int x2), (3, .int x3)]) C dX11_baseOf_55 (j := 4) rfl (by rw [ev12]; rfl) (by decide) rfl ?_
        refine g_goto (tgt := 8) C dX11_baseOf_58 (by decide) ?_
        refine g_locals [1, 2, 3, 4, 0] rfl ?_
        exact ih x1 x2 x3 v12 r11 q h
def wp_X11_baseOf (P : Int32 → RST → Prop) (p0 : Int32) (p1 : Int32) (p2 : Int32) (r : Nat → Int32) (q : Nat → Nat → Int32) : Prop := ∀ r1 : Nat → Int32, r1 = va_up r 7 0 → (∃ k13 : Nat, wp_X11_baseOf_8  P k13 p0 p1 p2 1 r1 q)
set_option maxRecDepth 100000 in
set_option maxHeartbeats 4000000 in
theorem t_X11_baseOf {p : Program} {l : Launch} {e : Env} {s : State} {m : MethodId} {args : Array Value} {below : List Frame} {meth : Method} {c : Code} {D : va_G} {A : Nat → Prop} {T : Nat → ClassId} {m0 : Nat} {a : Nat → Nat} (C : GC p s m args meth c cX11_baseOf "FreightRaterModel" (ws_X11_baseOf) 5 D A (zty T)) (hr : meth.sig.returnType = (some .int)) (P : Int32 → RST → Prop) : ∀ (p0 : Int32) (p1 : Int32) (p2 : Int32) (r : Nat → Int32) (q : Nat → Nat → Int32), wp_X11_baseOf P p0 p1 p2 r q → GW p l e rm_X11_baseOf s m args below meth c D A 5 0 0 (MQ below (va_Qi P (RE D T m0 a A) A) args s 0 0 A) (RW m0 a T r q) 0 0 0 [(0, .ref m0), (1, .int p0), (2, .int p1), (3, .int p2)] [] := by
  have hw : ∀ {w : Cond}, w ∈ W0 → w.before args s = true := fun h => C.2.2.2.2.1 _ (List.mem_cons_of_mem _ h)
  intro p0 p1 p2 r q h
  unfold wp_X11_baseOf at h
  refine g_aload_n C dX11_baseOf_0 rfl 0 rfl ?_
  refine g_iconst (v := 0) C dX11_baseOf_1 (by decide) ?_
  refine gr_put_7 C iwx_X11 (hw kw_1816) dX11_baseOf_2 ?_
  refine gr_nr (fun r1 er1 => ?_)
  replace h := h r1 er1
  refine g_iconst (v := 1) C dX11_baseOf_5 (by decide) ?_
  refine g_istore (lv' := [(4, .int 1), (0, .ref m0), (1, .int p0), (2, .int p1), (3, .int p2)]) C dX11_baseOf_6 (by decide) rfl ?_
  refine g_locals [1, 2, 3, 4, 0] rfl ?_
  obtain ⟨k13, h⟩ := h
  refine t_X11_baseOf_8 C hr  P  k13 p0 p1 p2 1 r1 q h
theorem c_X11_baseOf (l : Launch) (D : va_G) (T : Nat → ClassId) (m0 : Nat) (a : Nat → Nat) (p0 : Int32) (p1 : Int32) (p2 : Int32) (r : Nat → Int32) (q : Nat → Nat → Int32) (P : Int32 → RST → Prop) (h : wp_X11_baseOf P p0 p1 p2 r q) : RMi l yX11_baseOf (ws_X11_baseOf) rm_X11_baseOf D T m0 a [.ref m0, .int p0, .int p1, .int p2] r q P := gr_meti (by decide) rfl rfl (Nat.le_of_ble_eq_true rfl) (fun p e s m args below meth c A C hr => t_X11_baseOf C hr P p0 p1 p2 r q h)
theorem rl_baseOf {P : Int32 → RST → Prop} {r : Nat → Int32} {q : Nat → Nat → Int32} {v z n0 : Nat} {w : Int32} (hv : v < 6) (h1 : 1 ≤ z) (h9 : z ≤ 9) (hn0 : n0 ≤ 5) (hm : q 0 (274 + 510 * v + 38 + z - 1) = nI n0) : ∀ (k i fuel b : Nat), k = n0 - i → i ≤ 5 → k < fuel → b < 5 → (∀ b', b' = chpFold (q 0) v z w k i b → P (if amtF (q 0) v z b' w < q 0 (274 + 510 * v + 137 + z - 1) then q 0 (274 + 510 * v + 137 + z - 1) else amtF (q 0) v z b' w) (va_up r 7 (nI b'), q)) → wp_X11_baseOf_8 P fuel (nI v) (nI z) w (nI i) (va_up r 7 (nI b)) q := by
  intro k
  induction k with
  | zero =>
    intro i fuel b hk h5 hf hb hp
    obtain ⟨f, rfl⟩ : ∃ f, fuel = f + 1 := ⟨fuel - 1, by omega⟩; rw [wp_X11_baseOf_8]; unfold wb_X11_baseOf_8; dsimp only
    simp (disch := omega) only [hm, va_up_self, li_2, li_3, li_4, li_5, li_6, li_7, li_8, li_9, li_10, li_12, li_14, li_20, li_26, li_30, li_31, li_36, li_38, li_47, li_48, li_50, li_57, li_58, li_80, li_98, li_99, li_100, li_102, li_104, li_105, li_108, li_109, li_110, li_114, li_115, li_119, li_122, li_137, li_146, li_147, li_148, li_149, li_150, li_200, li_255, li_256, li_274, li_510, li_512, li_640, li_999, li_1000, li_1024, li_3334, li_5000, li_9999, li_10000, li_23338, li_26672, li_30000, li_99999, li_150000, li_300000, pk_mul, nI_add, pk_sub, nI_clamp, nI_1, nI_p1, nI_a0, nI_0a, nI_m0, nI_m1, cl_0, cl_1, z01, z11, nI_leI, nI_ltI, nI_eq, nz_lt0, nz_le, nz_eq0, nz_pos, nz_le0, nz_eq1, nz_lt1, nz_ge1, nz_le1, nz_gt1, nz_vp, nz_vp0, nz_vp1, six_nI, vix_nI, bix_nI, pix_nI, fix_nI, gix_nI, rix_nI, zix_nI, pix_0, pix_1, bix_0, fix_0, fix_1, rix_1, true_and, and_true]
    exact ⟨⟨by omega, by omega, by omega⟩, fun _ => ⟨⟨by omega, ⟨by omega, by omega⟩, by omega⟩, ⟨by omega, by omega, by omega⟩, hp b rfl⟩, fun h => absurd (by omega) h⟩
  | succ k ih =>
    intro i fuel b hk h5 hf hb hp
    obtain ⟨f, rfl⟩ : ∃ f, fuel = f + 1 := ⟨fuel - 1, by omega⟩; rw [wp_X11_baseOf_8]; unfold wb_X11_baseOf_8; dsimp only
    have ec : chpFold (q 0) v z w (k + 1) i b = chpFold (q 0) v z w k (i + 1) (if amtF (q 0) v z i w < amtF (q 0) v z b w then i else b) := rfl
    rw [ec] at hp
    simp (disch := omega) only [hm, va_up_self, vu_up, li_2, li_3, li_4, li_5, li_6, li_7, li_8, li_9, li_10, li_12, li_14, li_20, li_26, li_30, li_31, li_36, li_38, li_47, li_48, li_50, li_57, li_58, li_80, li_98, li_99, li_100, li_102, li_104, li_105, li_108, li_109, li_110, li_114, li_115, li_119, li_122, li_137, li_146, li_147, li_148, li_149, li_150, li_200, li_255, li_256, li_274, li_510, li_512, li_640, li_999, li_1000, li_1024, li_3334, li_5000, li_9999, li_10000, li_23338, li_26672, li_30000, li_99999, li_150000, li_300000, pk_mul, nI_add, pk_sub, nI_clamp, nI_1, nI_p1, nI_a0, nI_0a, nI_m0, nI_m1, cl_0, cl_1, z01, z11, nI_leI, nI_ltI, nI_eq, nz_lt0, nz_le, nz_eq0, nz_pos, nz_le0, nz_eq1, nz_lt1, nz_ge1, nz_le1, nz_gt1, nz_vp, nz_vp0, nz_vp1, six_nI, vix_nI, bix_nI, pix_nI, fix_nI, gix_nI, rix_nI, zix_nI, pix_0, pix_1, bix_0, fix_0, fix_1, rix_1, true_and, and_true]
    refine ⟨⟨by omega, by omega, by omega⟩, fun h => absurd h (by omega), fun _ => ⟨⟨by omega, ⟨by omega, by omega⟩, by omega⟩, ⟨by omega, ⟨by omega, by omega⟩, by omega⟩, fun c r9 e9 v10 e10 => ?_, fun c r9 e9 v10 e10 => ?_⟩⟩
    · subst e9 e10
      rw [if_neg (Int32.not_lt.mpr c)] at hp
      exact ih (i + 1) f b (by omega) (by omega) (by omega) hb hp
    · subst e9 e10
      rw [if_pos (Int32.not_le.mp c)] at hp
      exact ih (i + 1) f i (by omega) (by omega) (by omega) (by omega) hp
theorem k_X11_baseOf (l : Launch) (D : va_G) (T : Nat → ClassId) (m0 : Nat) (a : Nat → Nat) (p0 : Int32) (p1 : Int32) (p2 : Int32) (r : Nat → Int32) (q : Nat → Nat → Int32) (h : WF (q 0) ∧ vix p0 ∧ zix p1) : RMi l yX11_baseOf (ws_X11_baseOf) rm_X11_baseOf D T m0 a [.ref m0, .int p0, .int p1, .int p2] r q (fun v u => (v = baseF (q 0) (iv p0) (iv p1) p2 ∧ u.1 = va_up r 7 (nI (chpF (q 0) (iv p0) (iv p1) p2)) ∧ u.2 = q)) := c_X11_baseOf l D T m0 a p0 p1 p2 r q _ <|
  (by
    obtain ⟨hw, ⟨v, hv, rfl⟩, ⟨z, h1, h9, rfl⟩⟩ := h
    obtain ⟨n0, hn0, hm⟩ := hw.brk hv h1 h9
    unfold wp_X11_baseOf
    intro r1 e1
    subst e1
    refine ⟨n0 + 1, rl_baseOf (P := fun v_1 u => v_1 = baseF (q 0) (iv (nI v)) (iv (nI z)) p2 ∧ u.1 = va_up r 7 (nI (chpF (q 0) (iv (nI v)) (iv (nI z)) p2)) ∧ u.2 = q) hv h1 h9 hn0 hm (n0 - 1) 1 _ 0 rfl (by omega) (by omega) (by omega) (fun b' e' => ?_)⟩
    unfold baseF chpF
    simp (disch := omega) only [nI_clamp, hm]
    rw [e']
    repeat' (first | with_reducible rfl | with_reducible trivial | omega | with_reducible apply And.intro | rfl))
abbrev ws_X11_longest : List Cond := Cond.code yX11_longest cX11_longest 5 (some .int) :: W0
abbrev rm_X11_longest : Room := ({ frames := 2, cells := 0, slots := 0, locals := 45 } : Room)
def wb_X11_longest_17 (rec : Int32 → Int32 → Int32 → Int32 → (Nat → Int32) → (Nat → Nat → Int32) → Prop) (K42 : Int32 → Int32 → Int32 → (Nat → Int32) → (Nat → Nat → Int32) → Prop) (P : Int32 → RST → Prop) (x1 : Int32) (x2 : Int32) (x3 : Int32) (x4 : Int32) (r : Nat → Int32) (q : Nat → Nat → Int32) : Prop := (3 ≤ x4 → (K42 x1 x2 x3 r q)) ∧ (¬ 3 ≤ x4 → ((six x1 ∧ bix x3 ∧ fix4 x4) ∧ (∀ v5 : Int32, v5 = (if x2 < (q 0 (14 + 26 * iv x1 + (6 + 4 * iv x3 + iv x4))) then (q 0 (14 + 26 * iv x1 + (6 + 4 * iv x3 + iv x4))) else x2) → (∀ v6 : Int32, v6 = x4 + 1 → (rec x1 v5 x3 v6 r q)))))
def wp_X11_longest_17 (K42 : Int32 → Int32 → Int32 → (Nat → Int32) → (Nat → Nat → Int32) → Prop) (P : Int32 → RST → Prop) : Nat → Int32 → Int32 → Int32 → Int32 → (Nat → Int32) → (Nat → Nat → Int32) → Prop
  | 0 => fun _ _ _ _ _ _ => False
  | n + 1 => fun x1 x2 x3 x4 r q => wb_X11_longest_17 (wp_X11_longest_17 K42 P n) K42 P x1 x2 x3 x4 r q
set_option maxRecDepth 100000 in
set_option maxHeartbeats 4000000 in
theorem t_X11_longest_17 {p : Program} {l : Launch} {e : Env} {s : State} {m : MethodId} {args : Array Value} {below : List Frame} {meth : Method} {c : Code} {D : va_G} {A : Nat → Prop} {T : Nat → ClassId} {m0 : Nat} {a : Nat → Nat} (C : GC p s m args meth c cX11_longest "FreightRaterModel" (ws_X11_longest) 5 D A (zty T)) (hr : meth.sig.returnType = (some .int)) (K42 : Int32 → Int32 → Int32 → (Nat → Int32) → (Nat → Nat → Int32) → Prop) (P : Int32 → RST → Prop) (hK42 : ∀ (x1 : Int32) (x2 : Int32) (x3 : Int32) (r : Nat → Int32) (q : Nat → Nat → Int32), K42 x1 x2 x3 r q → GW p l e rm_X11_longest s m args below meth c D A 5 0 0 (MQ below (va_Qi P (RE D T m0 a A) A) args s 0 0 A) (RW m0 a T r q) 0 0 42 [(0, .ref m0), (1, .int x1), (2, .int x2), (3, .int x3)] []) : ∀ (n : Nat) (x1 : Int32) (x2 : Int32) (x3 : Int32) (x4 : Int32) (r : Nat → Int32) (q : Nat → Nat → Int32), wp_X11_longest_17 K42 P n x1 x2 x3 x4 r q → GW p l e rm_X11_longest s m args below meth c D A 5 0 0 (MQ below (va_Qi P (RE D T m0 a A) A) args s 0 0 A) (RW m0 a T r q) 0 0 17 [(0, .ref m0), (1, .int x1), (2, .int x2), (3, .int x3), (4, .int x4)] [] := by
  have hw : ∀ {w : Cond}, w ∈ W0 → w.before args s = true := fun h => C.2.2.2.2.1 _ (List.mem_cons_of_mem _ h)
  intro n
  induction n with
  | zero => intro x1 x2 x3 x4 r q h; exact h.elim
  | succ n ih =>
    intro x1 x2 x3 x4 r q h
    replace h : wb_X11_longest_17 (wp_X11_longest_17 K42 P n) K42 P x1 x2 x3 x4 r q := h
    unfold wb_X11_longest_17 at h
    refine g_iload C dX11_longest_17 4 rfl ?_
    refine g_iconst (v := 3) C dX11_longest_19 (by decide) ?_
    refine g_icmp_ge (tgt := 42) C dX11_longest_20 (by decide) (fun z3 => ?_) (fun z3 => ?_)
    · replace h := h.1 z3
      refine g_locals [0, 1, 2, 3] rfl ?_
      exact hK42 x1 x2 x3 r q h
    · replace h := h.2 z3
      refine g_iload_n C dX11_longest_23 rfl 2 rfl ?_
      refine g_aload_n C dX11_longest_24 rfl 0 rfl ?_
      refine g_iload_n C dX11_longest_25 rfl 1 rfl ?_
      refine g_iload_n C dX11_longest_26 rfl 3 rfl ?_
      refine g_iload C dX11_longest_27 4 rfl ?_
      obtain ⟨g4, h⟩ := h
      refine gr_callVf C [.int x1, .int x3, .int x4] rfl (k_X11_side l D T m0 a x1 x3 x4 r q g4) (w0_V 3 C.2.2.2.2.1 kw_2147 kw_2149 ks_81 kw_9 kw_2150 rfl rfl (by decide +kernel) ⟨by decide, by decide⟩) rfl (Nat.le_of_ble_eq_true rfl) (Nat.zero_le _) (Nat.zero_le _) dX11_longest_29 ?_
      refine g_mmax C (hw kw_2025) (hw kw_626) (hw kw_18) (hw kw_627) (by decide) (Nat.le_of_ble_eq_true rfl) (Nat.zero_le _) (Nat.zero_le _) dX11_longest_32 ?_
      refine g_topi (fun v5 ev5 => ?_)
      replace h := h v5 ev5
      refine g_istore_n (lv' := [(2, .int v5), (0, .ref m0), (1, .int x1), (3, .int x3), (4, .int x4)]) C dX11_longest_35 rfl (by decide) rfl ?_
      obtain ⟨v6, ev6⟩ : ∃ y : Int32, y = x4 + 1 := ⟨_, rfl⟩
      replace h := h v6 ev6
      refine g_iinc (v := v6) (lv' := [(4, .int v6), (2, .int v5), (0, .ref m0), (1, .int x1), (3, .int x3)]) C dX11_longest_36 (j := 4) rfl (by rw [ev6]; rfl) (by decide) rfl ?_
      refine g_goto (tgt := 17) C dX11_longest_39 (by decide) ?_
      refine g_locals [2, 3, 1, 4, 0] rfl ?_
      exact ih x1 v5 x3 v6 r q h
def wb_X11_longest_4 (rec : Int32 → Int32 → Int32 → (Nat → Int32) → (Nat → Nat → Int32) → Prop) (P : Int32 → RST → Prop) (x1 : Int32) (x2 : Int32) (x3 : Int32) (r : Nat → Int32) (q : Nat → Nat → Int32) : Prop := (six x1 ∧ pix 4) ∧ (((q 0 (14 + 26 * iv x1 + iv 4)) ≤ x3 → (P x2 (r, q))) ∧ (¬ (q 0 (14 + 26 * iv x1 + iv 4)) ≤ x3 → (∃ k13 : Nat, wp_X11_longest_17 (fun (y7 : Int32) (y8 : Int32) (y9 : Int32) (r10 : Nat → Int32) (q11 : Nat → Nat → Int32) => ∀ v12 : Int32, v12 = y9 + 1 → (rec y7 y8 v12 r10 q11)) P k13 x1 x2 x3 0 r q)))
def wp_X11_longest_4 (P : Int32 → RST → Prop) : Nat → Int32 → Int32 → Int32 → (Nat → Int32) → (Nat → Nat → Int32) → Prop
  | 0 => fun _ _ _ _ _ => False
  | n + 1 => fun x1 x2 x3 r q => wb_X11_longest_4 (wp_X11_longest_4  P n)  P x1 x2 x3 r q
set_option maxRecDepth 100000 in
set_option maxHeartbeats 4000000 in
theorem t_X11_longest_4 {p : Program} {l : Launch} {e : Env} {s : State} {m : MethodId} {args : Array Value} {below : List Frame} {meth : Method} {c : Code} {D : va_G} {A : Nat → Prop} {T : Nat → ClassId} {m0 : Nat} {a : Nat → Nat} (C : GC p s m args meth c cX11_longest "FreightRaterModel" (ws_X11_longest) 5 D A (zty T)) (hr : meth.sig.returnType = (some .int)) (P : Int32 → RST → Prop) : ∀ (n : Nat) (x1 : Int32) (x2 : Int32) (x3 : Int32) (r : Nat → Int32) (q : Nat → Nat → Int32), wp_X11_longest_4  P n x1 x2 x3 r q → GW p l e rm_X11_longest s m args below meth c D A 5 0 0 (MQ below (va_Qi P (RE D T m0 a A) A) args s 0 0 A) (RW m0 a T r q) 0 0 4 [(0, .ref m0), (1, .int x1), (2, .int x2), (3, .int x3)] [] := by
  have hw : ∀ {w : Cond}, w ∈ W0 → w.before args s = true := fun h => C.2.2.2.2.1 _ (List.mem_cons_of_mem _ h)
  intro n
  induction n with
  | zero => intro x1 x2 x3 r q h; exact h.elim
  | succ n ih =>
    intro x1 x2 x3 r q h
    replace h : wb_X11_longest_4 (wp_X11_longest_4  P n)  P x1 x2 x3 r q := h
    unfold wb_X11_longest_4 at h
    refine g_iload_n C dX11_longest_4 rfl 3 rfl ?_
    refine g_aload_n C dX11_longest_5 rfl 0 rfl ?_
    refine g_iload_n C dX11_longest_6 rfl 1 rfl ?_
    refine g_iconst (v := 4) C dX11_longest_7 (by decide) ?_
    obtain ⟨g1, h⟩ := h
    refine gr_callVf C [.int x1, .int 4] rfl (k_X11_of l D T m0 a x1 4 r q g1) (w0_V 2 C.2.2.2.2.1 kw_2127 kw_2129 ks_79 kw_9 kw_2130 rfl rfl (by decide +kernel) ⟨by decide, by decide⟩) rfl (Nat.le_of_ble_eq_true rfl) (Nat.zero_le _) (Nat.zero_le _) dX11_longest_8 ?_
    refine g_icmp_ge (tgt := 48) C dX11_longest_11 (by decide) (fun z2 => ?_) (fun z2 => ?_)
    · replace h := h.1 z2
      refine g_iload_n C dX11_longest_48 rfl 2 rfl ?_
      exact gr_iret C hr dX11_longest_49 h
    · replace h := h.2 z2
      refine g_iconst (v := 0) C dX11_longest_14 (by decide) ?_
      refine g_istore (lv' := [(4, .int 0), (0, .ref m0), (1, .int x1), (2, .int x2), (3, .int x3)]) C dX11_longest_15 (by decide) rfl ?_
      refine g_locals [1, 2, 3, 4, 0] rfl ?_
      obtain ⟨k13, h⟩ := h
      refine t_X11_longest_17 C hr _ P ?_ k13 x1 x2 x3 0 r q h
      · intro y7 y8 y9 r10 q11 h
        obtain ⟨v12, ev12⟩ : ∃ y : Int32, y = y9 + 1 := ⟨_, rfl⟩
        replace h := h v12 ev12
        refine g_iinc (v := v12) (lv' := [(3, .int v12), (0, .ref m0), (1, .int y7), (2, .int y8)]) C dX11_longest_42 (j := 3) rfl (by rw [ev12]; rfl) (by decide) rfl ?_
        refine g_goto (tgt := 4) C dX11_longest_45 (by decide) ?_
        refine g_locals [1, 2, 3, 0] rfl ?_
        exact ih y7 y8 v12 r10 q11 h
def wp_X11_longest (P : Int32 → RST → Prop) (p0 : Int32) (r : Nat → Int32) (q : Nat → Nat → Int32) : Prop := ∃ k14 : Nat, wp_X11_longest_4  P k14 p0 0 0 r q
set_option maxRecDepth 100000 in
set_option maxHeartbeats 4000000 in
theorem t_X11_longest {p : Program} {l : Launch} {e : Env} {s : State} {m : MethodId} {args : Array Value} {below : List Frame} {meth : Method} {c : Code} {D : va_G} {A : Nat → Prop} {T : Nat → ClassId} {m0 : Nat} {a : Nat → Nat} (C : GC p s m args meth c cX11_longest "FreightRaterModel" (ws_X11_longest) 5 D A (zty T)) (hr : meth.sig.returnType = (some .int)) (P : Int32 → RST → Prop) : ∀ (p0 : Int32) (r : Nat → Int32) (q : Nat → Nat → Int32), wp_X11_longest P p0 r q → GW p l e rm_X11_longest s m args below meth c D A 5 0 0 (MQ below (va_Qi P (RE D T m0 a A) A) args s 0 0 A) (RW m0 a T r q) 0 0 0 [(0, .ref m0), (1, .int p0)] [] := by
  have hw : ∀ {w : Cond}, w ∈ W0 → w.before args s = true := fun h => C.2.2.2.2.1 _ (List.mem_cons_of_mem _ h)
  intro p0 r q h
  unfold wp_X11_longest at h
  refine g_iconst (v := 0) C dX11_longest_0 (by decide) ?_
  refine g_istore_n (lv' := [(2, .int 0), (0, .ref m0), (1, .int p0)]) C dX11_longest_1 rfl (by decide) rfl ?_
  refine g_iconst (v := 0) C dX11_longest_2 (by decide) ?_
  refine g_istore_n (lv' := [(3, .int 0), (2, .int 0), (0, .ref m0), (1, .int p0)]) C dX11_longest_3 rfl (by decide) rfl ?_
  refine g_locals [2, 3, 1, 0] rfl ?_
  obtain ⟨k14, h⟩ := h
  refine t_X11_longest_4 C hr  P  k14 p0 0 0 r q h
theorem c_X11_longest (l : Launch) (D : va_G) (T : Nat → ClassId) (m0 : Nat) (a : Nat → Nat) (p0 : Int32) (r : Nat → Int32) (q : Nat → Nat → Int32) (P : Int32 → RST → Prop) (h : wp_X11_longest P p0 r q) : RMi l yX11_longest (ws_X11_longest) rm_X11_longest D T m0 a [.ref m0, .int p0] r q P := gr_meti (by decide) rfl rfl (Nat.le_of_ble_eq_true rfl) (fun p e s m args below meth c A C hr => t_X11_longest C hr P p0 r q h)
theorem rl_longest_in {K : Int32 → Int32 → Int32 → (Nat → Int32) → (Nat → Nat → Int32) → Prop} {P : Int32 → RST → Prop} {r : Nat → Int32} {q : Nat → Nat → Int32} {s p : Nat} {n : Int32} (hs : s < 10) (hp : p < 5) (h : K (nI s) (mxF (mxF (mxF n (q 0 (14 + 26 * s + (6 + 4 * p)))) (q 0 (14 + 26 * s + (6 + 4 * p + 1)))) (q 0 (14 + 26 * s + (6 + 4 * p + 2)))) (nI p) r q) : wp_X11_longest_17 K P 4 (nI s) n (nI p) 0 r q := by
  rw [wp_X11_longest_17]; unfold wb_X11_longest_17
  simp (disch := omega) only [li_2, li_3, li_4, li_5, li_6, li_7, li_8, li_9, li_10, li_12, li_14, li_20, li_26, li_30, li_31, li_36, li_38, li_47, li_48, li_50, li_57, li_58, li_80, li_98, li_99, li_100, li_102, li_104, li_105, li_108, li_109, li_110, li_114, li_115, li_119, li_122, li_137, li_146, li_147, li_148, li_149, li_150, li_200, li_255, li_256, li_274, li_510, li_512, li_640, li_999, li_1000, li_1024, li_3334, li_5000, li_9999, li_10000, li_23338, li_26672, li_30000, li_99999, li_150000, li_300000, pk_mul, nI_add, pk_sub, nI_clamp, nI_1, nI_p1, nI_a0, nI_0a, nI_m0, nI_m1, cl_0, cl_1, z01, z11, nI_leI, nI_ltI, nI_eq, nz_lt0, nz_le, nz_eq0, nz_pos, nz_le0, nz_eq1, nz_lt1, nz_ge1, nz_le1, nz_gt1, nz_vp, nz_vp0, nz_vp1, six_nI, vix_nI, bix_nI, pix_nI, fix_nI, gix_nI, rix_nI, zix_nI, pix_0, pix_1, bix_0, fix_0, fix_1, rix_1, true_and, and_true]
  refine ⟨fun h => absurd h (by decide), fun _ => ⟨⟨by omega, by omega⟩, fun v5 e5 v6 e6 => ?_⟩⟩
  subst e5 e6
  rw [wp_X11_longest_17]; unfold wb_X11_longest_17
  simp (disch := omega) only [li_2, li_3, li_4, li_5, li_6, li_7, li_8, li_9, li_10, li_12, li_14, li_20, li_26, li_30, li_31, li_36, li_38, li_47, li_48, li_50, li_57, li_58, li_80, li_98, li_99, li_100, li_102, li_104, li_105, li_108, li_109, li_110, li_114, li_115, li_119, li_122, li_137, li_146, li_147, li_148, li_149, li_150, li_200, li_255, li_256, li_274, li_510, li_512, li_640, li_999, li_1000, li_1024, li_3334, li_5000, li_9999, li_10000, li_23338, li_26672, li_30000, li_99999, li_150000, li_300000, pk_mul, nI_add, pk_sub, nI_clamp, nI_1, nI_p1, nI_a0, nI_0a, nI_m0, nI_m1, cl_0, cl_1, z01, z11, nI_leI, nI_ltI, nI_eq, nz_lt0, nz_le, nz_eq0, nz_pos, nz_le0, nz_eq1, nz_lt1, nz_ge1, nz_le1, nz_gt1, nz_vp, nz_vp0, nz_vp1, six_nI, vix_nI, bix_nI, pix_nI, fix_nI, gix_nI, rix_nI, zix_nI, pix_0, pix_1, bix_0, fix_0, fix_1, rix_1, true_and, and_true]
  refine ⟨fun h => absurd h (by decide), fun _ => ⟨⟨by omega, by omega⟩, fun v5 e5 v6 e6 => ?_⟩⟩
  subst e5 e6
  rw [wp_X11_longest_17]; unfold wb_X11_longest_17
  simp (disch := omega) only [li_2, li_3, li_4, li_5, li_6, li_7, li_8, li_9, li_10, li_12, li_14, li_20, li_26, li_30, li_31, li_36, li_38, li_47, li_48, li_50, li_57, li_58, li_80, li_98, li_99, li_100, li_102, li_104, li_105, li_108, li_109, li_110, li_114, li_115, li_119, li_122, li_137, li_146, li_147, li_148, li_149, li_150, li_200, li_255, li_256, li_274, li_510, li_512, li_640, li_999, li_1000, li_1024, li_3334, li_5000, li_9999, li_10000, li_23338, li_26672, li_30000, li_99999, li_150000, li_300000, pk_mul, nI_add, pk_sub, nI_clamp, nI_1, nI_p1, nI_a0, nI_0a, nI_m0, nI_m1, cl_0, cl_1, z01, z11, nI_leI, nI_ltI, nI_eq, nz_lt0, nz_le, nz_eq0, nz_pos, nz_le0, nz_eq1, nz_lt1, nz_ge1, nz_le1, nz_gt1, nz_vp, nz_vp0, nz_vp1, six_nI, vix_nI, bix_nI, pix_nI, fix_nI, gix_nI, rix_nI, zix_nI, pix_0, pix_1, bix_0, fix_0, fix_1, rix_1, true_and, and_true]
  refine ⟨fun h => absurd h (by decide), fun _ => ⟨⟨by omega, by omega⟩, fun v5 e5 v6 e6 => ?_⟩⟩
  subst e5 e6
  rw [wp_X11_longest_17]; unfold wb_X11_longest_17
  simp (disch := omega) only [li_2, li_3, li_4, li_5, li_6, li_7, li_8, li_9, li_10, li_12, li_14, li_20, li_26, li_30, li_31, li_36, li_38, li_47, li_48, li_50, li_57, li_58, li_80, li_98, li_99, li_100, li_102, li_104, li_105, li_108, li_109, li_110, li_114, li_115, li_119, li_122, li_137, li_146, li_147, li_148, li_149, li_150, li_200, li_255, li_256, li_274, li_510, li_512, li_640, li_999, li_1000, li_1024, li_3334, li_5000, li_9999, li_10000, li_23338, li_26672, li_30000, li_99999, li_150000, li_300000, pk_mul, nI_add, pk_sub, nI_clamp, nI_1, nI_p1, nI_a0, nI_0a, nI_m0, nI_m1, cl_0, cl_1, z01, z11, nI_leI, nI_ltI, nI_eq, nz_lt0, nz_le, nz_eq0, nz_pos, nz_le0, nz_eq1, nz_lt1, nz_ge1, nz_le1, nz_gt1, nz_vp, nz_vp0, nz_vp1, six_nI, vix_nI, bix_nI, pix_nI, fix_nI, gix_nI, rix_nI, zix_nI, pix_0, pix_1, bix_0, fix_0, fix_1, rix_1, true_and, and_true]
  exact ⟨fun _ => h, fun h => absurd (by decide) h⟩
theorem rl_longest {P : Int32 → RST → Prop} {r : Nat → Int32} {q : Nat → Nat → Int32} {s n0 : Nat} (hs : s < 10) (hn0 : n0 ≤ 5) (hm : q 0 (14 + 26 * s + 4) = nI n0) : ∀ (k p fuel : Nat) (n : Int32), p + k = n0 → k < fuel → P (longFold (q 0) s k p n) (r, q) → wp_X11_longest_4 P fuel (nI s) n (nI p) r q := by
  intro k
  induction k with
  | zero =>
    intro p fuel n hp hf h
    obtain ⟨f, rfl⟩ : ∃ f, fuel = f + 1 := ⟨fuel - 1, by omega⟩; rw [wp_X11_longest_4]; unfold wb_X11_longest_4; dsimp only
    simp (disch := omega) only [hm, li_2, li_3, li_4, li_5, li_6, li_7, li_8, li_9, li_10, li_12, li_14, li_20, li_26, li_30, li_31, li_36, li_38, li_47, li_48, li_50, li_57, li_58, li_80, li_98, li_99, li_100, li_102, li_104, li_105, li_108, li_109, li_110, li_114, li_115, li_119, li_122, li_137, li_146, li_147, li_148, li_149, li_150, li_200, li_255, li_256, li_274, li_510, li_512, li_640, li_999, li_1000, li_1024, li_3334, li_5000, li_9999, li_10000, li_23338, li_26672, li_30000, li_99999, li_150000, li_300000, pk_mul, nI_add, pk_sub, nI_clamp, nI_1, nI_p1, nI_a0, nI_0a, nI_m0, nI_m1, cl_0, cl_1, z01, z11, nI_leI, nI_ltI, nI_eq, nz_lt0, nz_le, nz_eq0, nz_pos, nz_le0, nz_eq1, nz_lt1, nz_ge1, nz_le1, nz_gt1, nz_vp, nz_vp0, nz_vp1, six_nI, vix_nI, bix_nI, pix_nI, fix_nI, gix_nI, rix_nI, zix_nI, pix_0, pix_1, bix_0, fix_0, fix_1, rix_1, true_and, and_true]
    exact ⟨⟨by omega, by omega⟩, fun _ => h, fun h => absurd (by omega) h⟩
  | succ k ih =>
    intro p fuel n hp hf h
    obtain ⟨f, rfl⟩ : ∃ f, fuel = f + 1 := ⟨fuel - 1, by omega⟩; rw [wp_X11_longest_4]; unfold wb_X11_longest_4; dsimp only
    simp (disch := omega) only [hm, li_2, li_3, li_4, li_5, li_6, li_7, li_8, li_9, li_10, li_12, li_14, li_20, li_26, li_30, li_31, li_36, li_38, li_47, li_48, li_50, li_57, li_58, li_80, li_98, li_99, li_100, li_102, li_104, li_105, li_108, li_109, li_110, li_114, li_115, li_119, li_122, li_137, li_146, li_147, li_148, li_149, li_150, li_200, li_255, li_256, li_274, li_510, li_512, li_640, li_999, li_1000, li_1024, li_3334, li_5000, li_9999, li_10000, li_23338, li_26672, li_30000, li_99999, li_150000, li_300000, pk_mul, nI_add, pk_sub, nI_clamp, nI_1, nI_p1, nI_a0, nI_0a, nI_m0, nI_m1, cl_0, cl_1, z01, z11, nI_leI, nI_ltI, nI_eq, nz_lt0, nz_le, nz_eq0, nz_pos, nz_le0, nz_eq1, nz_lt1, nz_ge1, nz_le1, nz_gt1, nz_vp, nz_vp0, nz_vp1, six_nI, vix_nI, bix_nI, pix_nI, fix_nI, gix_nI, rix_nI, zix_nI, pix_0, pix_1, bix_0, fix_0, fix_1, rix_1, true_and, and_true]
    refine ⟨⟨by omega, by omega⟩, fun h => absurd h (by omega), fun _ => ⟨4, rl_longest_in hs (by omega) ?_⟩⟩
    intro v12 e12
    subst e12
    simp (disch := omega) only [li_2, li_3, li_4, li_5, li_6, li_7, li_8, li_9, li_10, li_12, li_14, li_20, li_26, li_30, li_31, li_36, li_38, li_47, li_48, li_50, li_57, li_58, li_80, li_98, li_99, li_100, li_102, li_104, li_105, li_108, li_109, li_110, li_114, li_115, li_119, li_122, li_137, li_146, li_147, li_148, li_149, li_150, li_200, li_255, li_256, li_274, li_510, li_512, li_640, li_999, li_1000, li_1024, li_3334, li_5000, li_9999, li_10000, li_23338, li_26672, li_30000, li_99999, li_150000, li_300000, pk_mul, nI_add, pk_sub, nI_clamp, nI_1, nI_p1, nI_a0, nI_0a, nI_m0, nI_m1, cl_0, cl_1, z01, z11]
    exact ih (p + 1) f _ (by omega) (by omega) h
theorem k_X11_longest (l : Launch) (D : va_G) (T : Nat → ClassId) (m0 : Nat) (a : Nat → Nat) (p0 : Int32) (r : Nat → Int32) (q : Nat → Nat → Int32) (h : WF (q 0) ∧ six p0) : RMi l yX11_longest (ws_X11_longest) rm_X11_longest D T m0 a [.ref m0, .int p0] r q (fun v u => v = (longF (q 0) (iv p0)) ∧ u = (r, q)) := c_X11_longest l D T m0 a p0 r q _ <|
  (by
    obtain ⟨hw, ⟨s, hs, rfl⟩⟩ := h
    obtain ⟨n0, hn0, hm⟩ := hw.pcs hs
    unfold wp_X11_longest
    refine ⟨n0 + 1, rl_longest (P := fun v u => v = longF (q 0) (iv (nI s)) ∧ u = (r, q)) hs hn0 hm n0 0 _ 0 (by omega) (by omega) ⟨?_, rfl⟩⟩
    unfold longF
    simp (disch := omega) only [nI_clamp, hm])
abbrev ws_X11_dimensional : List Cond := Cond.code yX11_dimensional cX11_dimensional 5 (some .int) :: W0
abbrev rm_X11_dimensional : Room := ({ frames := 3, cells := 0, slots := 0, locals := 67 } : Room)
def wb_X11_dimensional_5 (rec : Int32 → Int32 → Int32 → Int32 → (Nat → Int32) → (Nat → Nat → Int32) → Prop) (P : Int32 → RST → Prop) (x1 : Int32) (x2 : Int32) (x3 : Int32) (x4 : Int32) (r : Nat → Int32) (q : Nat → Nat → Int32) : Prop := (six x1 ∧ pix 4) ∧ (((q 0 (14 + 26 * iv x1 + iv 4)) ≤ x4 → (P x3 (r, q))) ∧ (¬ (q 0 (14 + 26 * iv x1 + iv 4)) ≤ x4 → ((six x1 ∧ bix x4) ∧ (¬ x2 = 0 ∧ (∀ v5 : Int32, v5 = (x3 + ((((volF (q 0) (iv x1) (iv x4)) + x2) - 1) / x2)) → (∀ v6 : Int32, v6 = x4 + 1 → (rec x1 x2 v5 v6 r q)))))))
def wp_X11_dimensional_5 (P : Int32 → RST → Prop) : Nat → Int32 → Int32 → Int32 → Int32 → (Nat → Int32) → (Nat → Nat → Int32) → Prop
  | 0 => fun _ _ _ _ _ _ => False
  | n + 1 => fun x1 x2 x3 x4 r q => wb_X11_dimensional_5 (wp_X11_dimensional_5  P n)  P x1 x2 x3 x4 r q
set_option maxRecDepth 100000 in
set_option maxHeartbeats 4000000 in
theorem t_X11_dimensional_5 {p : Program} {l : Launch} {e : Env} {s : State} {m : MethodId} {args : Array Value} {below : List Frame} {meth : Method} {c : Code} {D : va_G} {A : Nat → Prop} {T : Nat → ClassId} {m0 : Nat} {a : Nat → Nat} (C : GC p s m args meth c cX11_dimensional "FreightRaterModel" (ws_X11_dimensional) 5 D A (zty T)) (hr : meth.sig.returnType = (some .int)) (P : Int32 → RST → Prop) : ∀ (n : Nat) (x1 : Int32) (x2 : Int32) (x3 : Int32) (x4 : Int32) (r : Nat → Int32) (q : Nat → Nat → Int32), wp_X11_dimensional_5  P n x1 x2 x3 x4 r q → GW p l e rm_X11_dimensional s m args below meth c D A 5 0 0 (MQ below (va_Qi P (RE D T m0 a A) A) args s 0 0 A) (RW m0 a T r q) 0 0 5 [(0, .ref m0), (1, .int x1), (2, .int x2), (3, .int x3), (4, .int x4)] [] := by
  have hw : ∀ {w : Cond}, w ∈ W0 → w.before args s = true := fun h => C.2.2.2.2.1 _ (List.mem_cons_of_mem _ h)
  intro n
  induction n with
  | zero => intro x1 x2 x3 x4 r q h; exact h.elim
  | succ n ih =>
    intro x1 x2 x3 x4 r q h
    replace h : wb_X11_dimensional_5 (wp_X11_dimensional_5  P n)  P x1 x2 x3 x4 r q := h
    unfold wb_X11_dimensional_5 at h
    refine g_iload C dX11_dimensional_5 4 rfl ?_
    refine g_aload_n C dX11_dimensional_7 rfl 0 rfl ?_
    refine g_iload_n C dX11_dimensional_8 rfl 1 rfl ?_
    refine g_iconst (v := 4) C dX11_dimensional_9 (by decide) ?_
    obtain ⟨g1, h⟩ := h
    refine gr_callVf C [.int x1, .int 4] rfl (k_X11_of l D T m0 a x1 4 r q g1) (w0_V 2 C.2.2.2.2.1 kw_2127 kw_2129 ks_79 kw_9 kw_2130 rfl rfl (by decide +kernel) ⟨by decide, by decide⟩) rfl (Nat.le_of_ble_eq_true rfl) (Nat.zero_le _) (Nat.zero_le _) dX11_dimensional_10 ?_
    refine g_icmp_ge (tgt := 38) C dX11_dimensional_13 (by decide) (fun z2 => ?_) (fun z2 => ?_)
    · replace h := h.1 z2
      refine g_iload_n C dX11_dimensional_38 rfl 3 rfl ?_
      exact gr_iret C hr dX11_dimensional_39 h
    · replace h := h.2 z2
      refine g_iload_n C dX11_dimensional_16 rfl 3 rfl ?_
      refine g_aload_n C dX11_dimensional_17 rfl 0 rfl ?_
      refine g_iload_n C dX11_dimensional_18 rfl 1 rfl ?_
      refine g_iload C dX11_dimensional_19 4 rfl ?_
      obtain ⟨g3, h⟩ := h
      refine gr_callVf C [.int x1, .int x4] rfl (k_X11_volume l D T m0 a x1 x4 r q g3) (w0_V 2 C.2.2.2.2.1 kw_2155 kw_2157 ks_83 kw_9 kw_2158 rfl rfl (by decide +kernel) ⟨by decide, by decide⟩) rfl (Nat.le_of_ble_eq_true rfl) (Nat.zero_le _) (Nat.zero_le _) dX11_dimensional_21 ?_
      refine g_iload_n C dX11_dimensional_24 rfl 2 rfl ?_
      refine g_iadd C dX11_dimensional_25 ?_
      refine g_iconst (v := 1) C dX11_dimensional_26 (by decide) ?_
      refine g_isub C dX11_dimensional_27 ?_
      refine g_iload_n C dX11_dimensional_28 rfl 2 rfl ?_
      obtain ⟨g4, h⟩ := h
      refine g_idiv C dX11_dimensional_29 g4 ?_
      refine g_iadd C dX11_dimensional_30 ?_
      refine g_topi (fun v5 ev5 => ?_)
      replace h := h v5 ev5
      refine g_istore_n (lv' := [(3, .int v5), (0, .ref m0), (1, .int x1), (2, .int x2), (4, .int x4)]) C dX11_dimensional_31 rfl (by decide) rfl ?_
      obtain ⟨v6, ev6⟩ : ∃ y : Int32, y = x4 + 1 := ⟨_, rfl⟩
      replace h := h v6 ev6
      refine g_iinc (v := v6) (lv' := [(4, .int v6), (3, .int v5), (0, .ref m0), (1, .int x1), (2, .int x2)]) C dX11_dimensional_32 (j := 4) rfl (by rw [ev6]; rfl) (by decide) rfl ?_
      refine g_goto (tgt := 5) C dX11_dimensional_35 (by decide) ?_
      refine g_locals [2, 3, 4, 1, 0] rfl ?_
      exact ih x1 x2 v5 v6 r q h
def wp_X11_dimensional (P : Int32 → RST → Prop) (p0 : Int32) (p1 : Int32) (r : Nat → Int32) (q : Nat → Nat → Int32) : Prop := ∃ k7 : Nat, wp_X11_dimensional_5  P k7 p0 p1 0 0 r q
set_option maxRecDepth 100000 in
set_option maxHeartbeats 4000000 in
theorem t_X11_dimensional {p : Program} {l : Launch} {e : Env} {s : State} {m : MethodId} {args : Array Value} {below : List Frame} {meth : Method} {c : Code} {D : va_G} {A : Nat → Prop} {T : Nat → ClassId} {m0 : Nat} {a : Nat → Nat} (C : GC p s m args meth c cX11_dimensional "FreightRaterModel" (ws_X11_dimensional) 5 D A (zty T)) (hr : meth.sig.returnType = (some .int)) (P : Int32 → RST → Prop) : ∀ (p0 : Int32) (p1 : Int32) (r : Nat → Int32) (q : Nat → Nat → Int32), wp_X11_dimensional P p0 p1 r q → GW p l e rm_X11_dimensional s m args below meth c D A 5 0 0 (MQ below (va_Qi P (RE D T m0 a A) A) args s 0 0 A) (RW m0 a T r q) 0 0 0 [(0, .ref m0), (1, .int p0), (2, .int p1)] [] := by
  have hw : ∀ {w : Cond}, w ∈ W0 → w.before args s = true := fun h => C.2.2.2.2.1 _ (List.mem_cons_of_mem _ h)
  intro p0 p1 r q h
  unfold wp_X11_dimensional at h
  refine g_iconst (v := 0) C dX11_dimensional_0 (by decide) ?_
  refine g_istore_n (lv' := [(3, .int 0), (0, .ref m0), (1, .int p0), (2, .int p1)]) C dX11_dimensional_1 rfl (by decide) rfl ?_
  refine g_iconst (v := 0) C dX11_dimensional_2 (by decide) ?_
  refine g_istore (lv' := [(4, .int 0), (3, .int 0), (0, .ref m0), (1, .int p0), (2, .int p1)]) C dX11_dimensional_3 (by decide) rfl ?_
  refine g_locals [2, 3, 4, 1, 0] rfl ?_
  obtain ⟨k7, h⟩ := h
  refine t_X11_dimensional_5 C hr  P  k7 p0 p1 0 0 r q h
theorem c_X11_dimensional (l : Launch) (D : va_G) (T : Nat → ClassId) (m0 : Nat) (a : Nat → Nat) (p0 : Int32) (p1 : Int32) (r : Nat → Int32) (q : Nat → Nat → Int32) (P : Int32 → RST → Prop) (h : wp_X11_dimensional P p0 p1 r q) : RMi l yX11_dimensional (ws_X11_dimensional) rm_X11_dimensional D T m0 a [.ref m0, .int p0, .int p1] r q P := gr_meti (by decide) rfl rfl (Nat.le_of_ble_eq_true rfl) (fun p e s m args below meth c A C hr => t_X11_dimensional C hr P p0 p1 r q h)
theorem rl_dimensional {P : Int32 → RST → Prop} {r : Nat → Int32} {q : Nat → Nat → Int32} {s n0 : Nat} {d : Int32} (hd : ¬ d = 0) (hs : s < 10) (hn0 : n0 ≤ 5) (hm : q 0 (14 + 26 * s + 4) = nI n0) : ∀ (k p fuel : Nat) (n : Int32), p + k = n0 → k < fuel → P (dimFold (q 0) s d k p n) (r, q) → wp_X11_dimensional_5 P fuel (nI s) d n (nI p) r q := by
  intro k
  induction k with
  | zero =>
    intro p fuel n hp hf h
    obtain ⟨f, rfl⟩ : ∃ f, fuel = f + 1 := ⟨fuel - 1, by omega⟩; rw [wp_X11_dimensional_5]; unfold wb_X11_dimensional_5; dsimp only
    simp (disch := omega) only [hm, li_2, li_3, li_4, li_5, li_6, li_7, li_8, li_9, li_10, li_12, li_14, li_20, li_26, li_30, li_31, li_36, li_38, li_47, li_48, li_50, li_57, li_58, li_80, li_98, li_99, li_100, li_102, li_104, li_105, li_108, li_109, li_110, li_114, li_115, li_119, li_122, li_137, li_146, li_147, li_148, li_149, li_150, li_200, li_255, li_256, li_274, li_510, li_512, li_640, li_999, li_1000, li_1024, li_3334, li_5000, li_9999, li_10000, li_23338, li_26672, li_30000, li_99999, li_150000, li_300000, pk_mul, nI_add, pk_sub, nI_clamp, nI_1, nI_p1, nI_a0, nI_0a, nI_m0, nI_m1, cl_0, cl_1, z01, z11, nI_leI, nI_ltI, nI_eq, nz_lt0, nz_le, nz_eq0, nz_pos, nz_le0, nz_eq1, nz_lt1, nz_ge1, nz_le1, nz_gt1, nz_vp, nz_vp0, nz_vp1, six_nI, vix_nI, bix_nI, pix_nI, fix_nI, gix_nI, rix_nI, zix_nI, pix_0, pix_1, bix_0, fix_0, fix_1, rix_1, true_and, and_true]
    exact ⟨⟨by omega, by omega⟩, fun _ => h, fun h => absurd (by omega) h⟩
  | succ k ih =>
    intro p fuel n hp hf h
    obtain ⟨f, rfl⟩ : ∃ f, fuel = f + 1 := ⟨fuel - 1, by omega⟩; rw [wp_X11_dimensional_5]; unfold wb_X11_dimensional_5; dsimp only
    simp (disch := omega) only [hm, li_2, li_3, li_4, li_5, li_6, li_7, li_8, li_9, li_10, li_12, li_14, li_20, li_26, li_30, li_31, li_36, li_38, li_47, li_48, li_50, li_57, li_58, li_80, li_98, li_99, li_100, li_102, li_104, li_105, li_108, li_109, li_110, li_114, li_115, li_119, li_122, li_137, li_146, li_147, li_148, li_149, li_150, li_200, li_255, li_256, li_274, li_510, li_512, li_640, li_999, li_1000, li_1024, li_3334, li_5000, li_9999, li_10000, li_23338, li_26672, li_30000, li_99999, li_150000, li_300000, pk_mul, nI_add, pk_sub, nI_clamp, nI_1, nI_p1, nI_a0, nI_0a, nI_m0, nI_m1, cl_0, cl_1, z01, z11, nI_leI, nI_ltI, nI_eq, nz_lt0, nz_le, nz_eq0, nz_pos, nz_le0, nz_eq1, nz_lt1, nz_ge1, nz_le1, nz_gt1, nz_vp, nz_vp0, nz_vp1, six_nI, vix_nI, bix_nI, pix_nI, fix_nI, gix_nI, rix_nI, zix_nI, pix_0, pix_1, bix_0, fix_0, fix_1, rix_1, true_and, and_true]
    refine ⟨⟨by omega, by omega⟩, fun h => absurd h (by omega), fun _ => ⟨⟨by omega, by omega⟩, hd, fun v5 e5 v6 e6 => ?_⟩⟩
    subst e5 e6
    exact ih (p + 1) f _ (by omega) (by omega) h
theorem k_X11_dimensional (l : Launch) (D : va_G) (T : Nat → ClassId) (m0 : Nat) (a : Nat → Nat) (p0 : Int32) (p1 : Int32) (r : Nat → Int32) (q : Nat → Nat → Int32) (h : WF (q 0) ∧ six p0 ∧ ¬ p1 = (0 : Int32)) : RMi l yX11_dimensional (ws_X11_dimensional) rm_X11_dimensional D T m0 a [.ref m0, .int p0, .int p1] r q (fun v u => v = (dimF (q 0) (iv p0) p1) ∧ u = (r, q)) := c_X11_dimensional l D T m0 a p0 p1 r q _ <|
  (by
    obtain ⟨hw, ⟨s, hs, rfl⟩, hd⟩ := h
    obtain ⟨n0, hn0, hm⟩ := hw.pcs hs
    unfold wp_X11_dimensional
    refine ⟨n0 + 1, rl_dimensional (P := fun v u => v = dimF (q 0) (iv (nI s)) p1 ∧ u = (r, q)) hd hs hn0 hm n0 0 _ 0 (by omega) (by omega) ⟨?_, rfl⟩⟩
    unfold dimF
    simp (disch := omega) only [nI_clamp, hm])
abbrev ws_X11_ones : List Cond := Cond.code yX11_ones cX11_ones 3 (some .int) :: W0
abbrev rm_X11_ones : Room := ({ frames := 0, cells := 0, slots := 0, locals := 0 } : Room)
def wb_X11_ones_4 (rec : Int32 → Int32 → (Nat → Int32) → (Nat → Nat → Int32) → Prop) (P : Int32 → RST → Prop) (x1 : Int32) (x2 : Int32) (r : Nat → Int32) (q : Nat → Nat → Int32) : Prop := (x2 = 0 → (P x1 (r, q))) ∧ (¬ x2 = 0 → (∀ v2 : Int32, v2 = x1 + 1 → (∀ v3 : Int32, v3 = (x2 &&& (x2 - 1)) → (rec v2 v3 r q))))
def wp_X11_ones_4 (P : Int32 → RST → Prop) : Nat → Int32 → Int32 → (Nat → Int32) → (Nat → Nat → Int32) → Prop
  | 0 => fun _ _ _ _ => False
  | n + 1 => fun x1 x2 r q => wb_X11_ones_4 (wp_X11_ones_4  P n)  P x1 x2 r q
set_option maxRecDepth 100000 in
set_option maxHeartbeats 4000000 in
theorem t_X11_ones_4 {p : Program} {l : Launch} {e : Env} {s : State} {m : MethodId} {args : Array Value} {below : List Frame} {meth : Method} {c : Code} {D : va_G} {A : Nat → Prop} {T : Nat → ClassId} {m0 : Nat} {a : Nat → Nat} (C : GC p s m args meth c cX11_ones "FreightRaterModel" (ws_X11_ones) 3 D A (zty T)) (hr : meth.sig.returnType = (some .int)) (P : Int32 → RST → Prop) : ∀ (n : Nat) (x1 : Int32) (x2 : Int32) (r : Nat → Int32) (q : Nat → Nat → Int32), wp_X11_ones_4  P n x1 x2 r q → GW p l e rm_X11_ones s m args below meth c D A 3 0 0 (MQ below (va_Qi P (RE D T m0 a A) A) args s 0 0 A) (RW m0 a T r q) 0 0 4 [(1, .int x1), (2, .int x2)] [] := by
  have hw : ∀ {w : Cond}, w ∈ W0 → w.before args s = true := fun h => C.2.2.2.2.1 _ (List.mem_cons_of_mem _ h)
  intro n
  induction n with
  | zero => intro x1 x2 r q h; exact h.elim
  | succ n ih =>
    intro x1 x2 r q h
    replace h : wb_X11_ones_4 (wp_X11_ones_4  P n)  P x1 x2 r q := h
    unfold wb_X11_ones_4 at h
    refine g_iload_n C dX11_ones_4 rfl 1 rfl ?_
    refine g_if_eq (tgt := 20) C dX11_ones_5 (by decide) (fun z1 => ?_) (fun z1 => ?_)
    · replace h := h.1 z1
      refine g_iload_n C dX11_ones_20 rfl 0 rfl ?_
      exact gr_iret C hr dX11_ones_21 h
    · replace h := h.2 z1
      obtain ⟨v2, ev2⟩ : ∃ y : Int32, y = x1 + 1 := ⟨_, rfl⟩
      replace h := h v2 ev2
      refine g_iinc (v := v2) (lv' := [(1, .int v2), (2, .int x2)]) C dX11_ones_8 (j := 0) rfl (by rw [ev2]; rfl) (by decide) rfl ?_
      refine g_iload_n C dX11_ones_11 rfl 1 rfl ?_
      refine g_iload_n C dX11_ones_12 rfl 1 rfl ?_
      refine g_iconst (v := 1) C dX11_ones_13 (by decide) ?_
      refine g_isub C dX11_ones_14 ?_
      refine g_iand C dX11_ones_15 ?_
      refine g_topi (fun v3 ev3 => ?_)
      replace h := h v3 ev3
      refine g_istore_n (lv' := [(2, .int v3), (1, .int v2)]) C dX11_ones_16 rfl (by decide) rfl ?_
      refine g_goto (tgt := 4) C dX11_ones_17 (by decide) ?_
      refine g_locals [1, 0] rfl ?_
      exact ih v2 v3 r q h
def wp_X11_ones (P : Int32 → RST → Prop) (p0 : Int32) (r : Nat → Int32) (q : Nat → Nat → Int32) : Prop := ∃ k4 : Nat, wp_X11_ones_4  P k4 0 p0 r q
set_option maxRecDepth 100000 in
set_option maxHeartbeats 4000000 in
theorem t_X11_ones {p : Program} {l : Launch} {e : Env} {s : State} {m : MethodId} {args : Array Value} {below : List Frame} {meth : Method} {c : Code} {D : va_G} {A : Nat → Prop} {T : Nat → ClassId} {m0 : Nat} {a : Nat → Nat} (C : GC p s m args meth c cX11_ones "FreightRaterModel" (ws_X11_ones) 3 D A (zty T)) (hr : meth.sig.returnType = (some .int)) (P : Int32 → RST → Prop) : ∀ (p0 : Int32) (r : Nat → Int32) (q : Nat → Nat → Int32), wp_X11_ones P p0 r q → GW p l e rm_X11_ones s m args below meth c D A 3 0 0 (MQ below (va_Qi P (RE D T m0 a A) A) args s 0 0 A) (RW m0 a T r q) 0 0 0 [(0, .int p0)] [] := by
  have hw : ∀ {w : Cond}, w ∈ W0 → w.before args s = true := fun h => C.2.2.2.2.1 _ (List.mem_cons_of_mem _ h)
  intro p0 r q h
  unfold wp_X11_ones at h
  refine g_iconst (v := 0) C dX11_ones_0 (by decide) ?_
  refine g_istore_n (lv' := [(1, .int 0), (0, .int p0)]) C dX11_ones_1 rfl (by decide) rfl ?_
  refine g_iload_n C dX11_ones_2 rfl 1 rfl ?_
  refine g_istore_n (lv' := [(2, .int p0), (1, .int 0), (0, .int p0)]) C dX11_ones_3 rfl (by decide) rfl ?_
  refine g_locals [1, 0] rfl ?_
  obtain ⟨k4, h⟩ := h
  refine t_X11_ones_4 C hr  P  k4 0 p0 r q h
theorem c_X11_ones (l : Launch) (D : va_G) (T : Nat → ClassId) (m0 : Nat) (a : Nat → Nat) (p0 : Int32) (r : Nat → Int32) (q : Nat → Nat → Int32) (P : Int32 → RST → Prop) (h : wp_X11_ones P p0 r q) : RMi l yX11_ones (ws_X11_ones) rm_X11_ones D T m0 a [.int p0] r q P := gr_meti (by decide) rfl rfl (Nat.le_of_ble_eq_true rfl) (fun p e s m args below meth c A C hr => t_X11_ones C hr P p0 r q h)
theorem rl_ones {P : Int32 → RST → Prop} {r : Nat → Int32} {q : Nat → Nat → Int32} : ∀ (k fuel : Nat) (x n : Int32), zb k x = true → k < fuel → P (onesFold (k + 1) x n) (r, q) → wp_X11_ones_4 P fuel n x r q := by
  intro k
  induction k with
  | zero =>
    intro fuel x n hz hf h
    obtain ⟨f, rfl⟩ : ∃ f, fuel = f + 1 := ⟨fuel - 1, by omega⟩; rw [wp_X11_ones_4]; unfold wb_X11_ones_4; dsimp only
    have e : x = 0 := by simpa [zb] using hz
    rw [onesFold, if_pos e] at h
    exact ⟨fun _ => h, fun z => absurd e z⟩
  | succ k ih =>
    intro fuel x n hz hf h
    obtain ⟨f, rfl⟩ : ∃ f, fuel = f + 1 := ⟨fuel - 1, by omega⟩; rw [wp_X11_ones_4]; unfold wb_X11_ones_4; dsimp only
    rw [onesFold] at h
    refine ⟨fun e => ?_, fun e v2 e2 v3 e3 => ?_⟩
    · rw [if_pos e] at h
      exact h
    · rw [if_neg e] at h
      subst e2 e3
      refine ih f _ _ ?_ (by omega) h
      rw [zb] at hz
      simpa [e] using hz
theorem k_X11_ones (l : Launch) (D : va_G) (T : Nat → ClassId) (m0 : Nat) (a : Nat → Nat) (p0 : Int32) (r : Nat → Int32) (q : Nat → Nat → Int32) (h : gix p0) : RMi l yX11_ones (ws_X11_ones) rm_X11_ones D T m0 a [.int p0] r q (fun v u => v = (nI (popN (iv p0))) ∧ u = (r, q)) := c_X11_ones l D T m0 a p0 r q _ <|
  (by
    obtain ⟨n, hn, rfl⟩ := h
    unfold wp_X11_ones
    refine ⟨11, rl_ones (P := fun v u => v = nI (popN (iv (nI n))) ∧ u = (r, q)) 10 _ _ 0 (zb_n hn) (by omega) ⟨?_, rfl⟩⟩
    rw [show iv (nI n) = n from nI_clamp (by omega)]
    exact (ones_pop hn).1)

end S_R4S
