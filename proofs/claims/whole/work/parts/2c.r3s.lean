section S_R3S
abbrev ws_X11_amountBy : List Cond := Cond.code yX11_amountBy cX11_amountBy 6 (some .int) :: W0
abbrev rm_X11_amountBy : Room := ({ frames := 2, cells := 0, slots := 0, locals := 42 } : Room)
def wp_X11_amountBy (P : Int32 → RST → Prop) (p0 : Int32) (p1 : Int32) (p2 : Int32) (p3 : Int32) (r : Nat → Int32) (q : Nat → Nat → Int32) : Prop := ∀ v1 : Int32, v1 = (274 + 510 * p0 + 47 + 10 * (p1 - 1) + 2 * p2) → (vp_in v1 3334 ∧ (vp_in (v1 + 1) 3334 ∧ (P ((if p3 < (q 0 (Int32.toNatClampNeg v1)) then (q 0 (Int32.toNatClampNeg v1)) else p3) * (q 0 (Int32.toNatClampNeg (v1 + 1)))) (r, q))))
set_option maxRecDepth 100000 in
set_option maxHeartbeats 4000000 in
theorem t_X11_amountBy {p : Program} {l : Launch} {e : Env} {s : State} {m : MethodId} {args : Array Value} {below : List Frame} {meth : Method} {c : Code} {D : va_G} {A : Nat → Prop} {T : Nat → ClassId} {m0 : Nat} {a : Nat → Nat} (C : GC p s m args meth c cX11_amountBy "FreightRaterModel" (ws_X11_amountBy) 6 D A (zty T)) (hr : meth.sig.returnType = (some .int)) (P : Int32 → RST → Prop) : ∀ (p0 : Int32) (p1 : Int32) (p2 : Int32) (p3 : Int32) (r : Nat → Int32) (q : Nat → Nat → Int32), wp_X11_amountBy P p0 p1 p2 p3 r q → GW p l e rm_X11_amountBy s m args below meth c D A 6 0 0 (MQ below (va_Qi P (RE D T m0 a A) A) args s 0 0 A) (RW m0 a T r q) 0 0 0 [(0, .ref m0), (1, .int p0), (2, .int p1), (3, .int p2), (4, .int p3)] [] := by
  have hw : ∀ {w : Cond}, w ∈ W0 → w.before args s = true := fun h => C.2.2.2.2.1 _ (List.mem_cons_of_mem _ h)
  intro p0 p1 p2 p3 r q h
  unfold wp_X11_amountBy at h
  refine g_iload_n C dX11_amountBy_0 rfl 1 rfl ?_
  refine g_iload_n C dX11_amountBy_1 rfl 2 rfl ?_
  refine g_iload_n C dX11_amountBy_2 rfl 3 rfl ?_
  refine gr_callSf C [.int p0, .int p1, .int p2] rfl (k_X11_breakAt l D T m0 a p0 p1 p2 r q) (w0_S 3 C.2.2.2.2.1 kw_2005 kw_2006 kw_9 kw_2007 rfl rfl (by decide +kernel) ⟨by decide, by decide⟩) rfl (Nat.le_of_ble_eq_true rfl) (Nat.zero_le _) (Nat.zero_le _) dX11_amountBy_3 ?_
  refine g_topi (fun v1 ev1 => ?_)
  replace h := h v1 ev1
  refine g_istore (lv' := [(5, .int v1), (0, .ref m0), (1, .int p0), (2, .int p1), (3, .int p2), (4, .int p3)]) C dX11_amountBy_6 (by decide) rfl ?_
  refine g_iload C dX11_amountBy_8 5 rfl ?_
  refine g_aload_n C dX11_amountBy_10 rfl 1 rfl ?_
  refine gr_get C iwx_X11 0 (hw kw_1809) (by decide) rfl rfl dX11_amountBy_11 ?_
  refine g_iload C dX11_amountBy_14 0 rfl ?_
  obtain ⟨g2, h⟩ := h
  refine gr_ald_0 C g2 dX11_amountBy_16 ?_
  refine g_mmax C (hw kw_2025) (hw kw_626) (hw kw_18) (hw kw_627) (by decide) (Nat.le_of_ble_eq_true rfl) (Nat.zero_le _) (Nat.zero_le _) dX11_amountBy_17 ?_
  refine g_aload_n C dX11_amountBy_20 rfl 1 rfl ?_
  refine gr_get C iwx_X11 0 (hw kw_1809) (by decide) rfl rfl dX11_amountBy_21 ?_
  refine g_iload C dX11_amountBy_24 0 rfl ?_
  refine g_iconst (v := 1) C dX11_amountBy_26 (by decide) ?_
  refine g_iadd C dX11_amountBy_27 ?_
  obtain ⟨g3, h⟩ := h
  refine gr_ald_0 C g3 dX11_amountBy_28 ?_
  refine g_imul C dX11_amountBy_29 ?_
  exact gr_iret C hr dX11_amountBy_30 h
theorem c_X11_amountBy (l : Launch) (D : va_G) (T : Nat → ClassId) (m0 : Nat) (a : Nat → Nat) (p0 : Int32) (p1 : Int32) (p2 : Int32) (p3 : Int32) (r : Nat → Int32) (q : Nat → Nat → Int32) (P : Int32 → RST → Prop) (h : wp_X11_amountBy P p0 p1 p2 p3 r q) : RMi l yX11_amountBy (ws_X11_amountBy) rm_X11_amountBy D T m0 a [.ref m0, .int p0, .int p1, .int p2, .int p3] r q P := gr_meti (by decide) rfl rfl (Nat.le_of_ble_eq_true rfl) (fun p e s m args below meth c A C hr => t_X11_amountBy C hr P p0 p1 p2 p3 r q h)
theorem k_X11_amountBy (l : Launch) (D : va_G) (T : Nat → ClassId) (m0 : Nat) (a : Nat → Nat) (p0 : Int32) (p1 : Int32) (p2 : Int32) (p3 : Int32) (r : Nat → Int32) (q : Nat → Nat → Int32) (h : vix p0 ∧ zix p1 ∧ bix p2) : RMi l yX11_amountBy (ws_X11_amountBy) rm_X11_amountBy D T m0 a [.ref m0, .int p0, .int p1, .int p2, .int p3] r q (fun v u => v = (amtF (q 0) (iv p0) (iv p1) (iv p2) p3) ∧ u = (r, q)) := c_X11_amountBy l D T m0 a p0 p1 p2 p3 r q _ <|
  (by
    obtain ⟨⟨v, hv, rfl⟩, ⟨z, hz1, hz2, rfl⟩, ⟨i, hi, rfl⟩⟩ := h
    unfold wp_X11_amountBy
    intro v1 e1
    subst e1
    unfold amtF
    simp (disch := omega) only [li_2, li_3, li_4, li_5, li_6, li_7, li_8, li_9, li_10, li_12, li_14, li_20, li_26, li_30, li_31, li_36, li_38, li_47, li_48, li_50, li_57, li_58, li_80, li_98, li_99, li_100, li_102, li_104, li_105, li_108, li_109, li_110, li_114, li_115, li_119, li_122, li_137, li_146, li_147, li_148, li_149, li_150, li_200, li_255, li_256, li_274, li_510, li_512, li_640, li_999, li_1000, li_1024, li_3334, li_5000, li_9999, li_10000, li_23338, li_26672, li_30000, li_99999, li_150000, li_300000, pk_mul, nI_add, pk_sub, nI_clamp, nI_1, nI_p1, nI_a0, nI_0a, nI_m0, nI_m1, cl_0, cl_1, z01, z11, nI_leI, nI_ltI, nI_eq, nz_lt0, nz_le, nz_eq0, nz_pos, nz_le0, nz_eq1, nz_lt1, nz_ge1, nz_le1, nz_gt1, nz_vp, nz_vp0, nz_vp1, six_nI, vix_nI, bix_nI, pix_nI, fix_nI, gix_nI, rix_nI, zix_nI, pix_0, pix_1, bix_0, fix_0, fix_1, rix_1, true_and, and_true]
    repeat' (first | with_reducible rfl | with_reducible trivial | omega | with_reducible apply And.intro | rfl))
abbrev ws_X11_volume : List Cond := Cond.code yX11_volume cX11_volume 3 (some .int) :: W0
abbrev rm_X11_volume : Room := ({ frames := 2, cells := 0, slots := 0, locals := 45 } : Room)
def wp_X11_volume (P : Int32 → RST → Prop) (p0 : Int32) (p1 : Int32) (r : Nat → Int32) (q : Nat → Nat → Int32) : Prop := (six p0 ∧ bix p1 ∧ fix4 0) ∧ ((six p0 ∧ bix p1 ∧ fix4 1) ∧ ((six p0 ∧ bix p1 ∧ fix4 2) ∧ (P (((q 0 (14 + 26 * iv p0 + (6 + 4 * iv p1 + iv 0))) * (q 0 (14 + 26 * iv p0 + (6 + 4 * iv p1 + iv 1)))) * (q 0 (14 + 26 * iv p0 + (6 + 4 * iv p1 + iv 2)))) (r, q))))
set_option maxRecDepth 100000 in
set_option maxHeartbeats 4000000 in
theorem t_X11_volume {p : Program} {l : Launch} {e : Env} {s : State} {m : MethodId} {args : Array Value} {below : List Frame} {meth : Method} {c : Code} {D : va_G} {A : Nat → Prop} {T : Nat → ClassId} {m0 : Nat} {a : Nat → Nat} (C : GC p s m args meth c cX11_volume "FreightRaterModel" (ws_X11_volume) 3 D A (zty T)) (hr : meth.sig.returnType = (some .int)) (P : Int32 → RST → Prop) : ∀ (p0 : Int32) (p1 : Int32) (r : Nat → Int32) (q : Nat → Nat → Int32), wp_X11_volume P p0 p1 r q → GW p l e rm_X11_volume s m args below meth c D A 3 0 0 (MQ below (va_Qi P (RE D T m0 a A) A) args s 0 0 A) (RW m0 a T r q) 0 0 0 [(0, .ref m0), (1, .int p0), (2, .int p1)] [] := by
  have hw : ∀ {w : Cond}, w ∈ W0 → w.before args s = true := fun h => C.2.2.2.2.1 _ (List.mem_cons_of_mem _ h)
  intro p0 p1 r q h
  unfold wp_X11_volume at h
  refine g_aload_n C dX11_volume_0 rfl 0 rfl ?_
  refine g_iload_n C dX11_volume_1 rfl 1 rfl ?_
  refine g_iload_n C dX11_volume_2 rfl 2 rfl ?_
  refine g_iconst (v := 0) C dX11_volume_3 (by decide) ?_
  obtain ⟨g1, h⟩ := h
  refine gr_callVf C [.int p0, .int p1, .int 0] rfl (k_X11_side l D T m0 a p0 p1 0 r q g1) (w0_V 3 C.2.2.2.2.1 kw_2147 kw_2149 ks_81 kw_9 kw_2150 rfl rfl (by decide +kernel) ⟨by decide, by decide⟩) rfl (Nat.le_of_ble_eq_true rfl) (Nat.zero_le _) (Nat.zero_le _) dX11_volume_4 ?_
  refine g_aload_n C dX11_volume_7 rfl 0 rfl ?_
  refine g_iload_n C dX11_volume_8 rfl 1 rfl ?_
  refine g_iload_n C dX11_volume_9 rfl 2 rfl ?_
  refine g_iconst (v := 1) C dX11_volume_10 (by decide) ?_
  obtain ⟨g2, h⟩ := h
  refine gr_callVf C [.int p0, .int p1, .int 1] rfl (k_X11_side l D T m0 a p0 p1 1 r q g2) (w0_V 3 C.2.2.2.2.1 kw_2147 kw_2149 ks_81 kw_9 kw_2150 rfl rfl (by decide +kernel) ⟨by decide, by decide⟩) rfl (Nat.le_of_ble_eq_true rfl) (Nat.zero_le _) (Nat.zero_le _) dX11_volume_11 ?_
  refine g_imul C dX11_volume_14 ?_
  refine g_aload_n C dX11_volume_15 rfl 0 rfl ?_
  refine g_iload_n C dX11_volume_16 rfl 1 rfl ?_
  refine g_iload_n C dX11_volume_17 rfl 2 rfl ?_
  refine g_iconst (v := 2) C dX11_volume_18 (by decide) ?_
  obtain ⟨g3, h⟩ := h
  refine gr_callVf C [.int p0, .int p1, .int 2] rfl (k_X11_side l D T m0 a p0 p1 2 r q g3) (w0_V 3 C.2.2.2.2.1 kw_2147 kw_2149 ks_81 kw_9 kw_2150 rfl rfl (by decide +kernel) ⟨by decide, by decide⟩) rfl (Nat.le_of_ble_eq_true rfl) (Nat.zero_le _) (Nat.zero_le _) dX11_volume_19 ?_
  refine g_imul C dX11_volume_22 ?_
  exact gr_iret C hr dX11_volume_23 h
theorem c_X11_volume (l : Launch) (D : va_G) (T : Nat → ClassId) (m0 : Nat) (a : Nat → Nat) (p0 : Int32) (p1 : Int32) (r : Nat → Int32) (q : Nat → Nat → Int32) (P : Int32 → RST → Prop) (h : wp_X11_volume P p0 p1 r q) : RMi l yX11_volume (ws_X11_volume) rm_X11_volume D T m0 a [.ref m0, .int p0, .int p1] r q P := gr_meti (by decide) rfl rfl (Nat.le_of_ble_eq_true rfl) (fun p e s m args below meth c A C hr => t_X11_volume C hr P p0 p1 r q h)
theorem k_X11_volume (l : Launch) (D : va_G) (T : Nat → ClassId) (m0 : Nat) (a : Nat → Nat) (p0 : Int32) (p1 : Int32) (r : Nat → Int32) (q : Nat → Nat → Int32) (h : six p0 ∧ bix p1) : RMi l yX11_volume (ws_X11_volume) rm_X11_volume D T m0 a [.ref m0, .int p0, .int p1] r q (fun v u => v = (volF (q 0) (iv p0) (iv p1)) ∧ u = (r, q)) := c_X11_volume l D T m0 a p0 p1 r q _ <|
  (by
    obtain ⟨⟨s, hs, rfl⟩, ⟨b, hb, rfl⟩⟩ := h
    unfold wp_X11_volume volF
    simp (disch := omega) only [li_2, li_3, li_4, li_5, li_6, li_7, li_8, li_9, li_10, li_12, li_14, li_20, li_26, li_30, li_31, li_36, li_38, li_47, li_48, li_50, li_57, li_58, li_80, li_98, li_99, li_100, li_102, li_104, li_105, li_108, li_109, li_110, li_114, li_115, li_119, li_122, li_137, li_146, li_147, li_148, li_149, li_150, li_200, li_255, li_256, li_274, li_510, li_512, li_640, li_999, li_1000, li_1024, li_3334, li_5000, li_9999, li_10000, li_23338, li_26672, li_30000, li_99999, li_150000, li_300000, pk_mul, nI_add, pk_sub, nI_clamp, nI_1, nI_p1, nI_a0, nI_0a, nI_m0, nI_m1, cl_0, cl_1, z01, z11]
    exact ⟨⟨⟨s, hs, rfl⟩, ⟨b, hb, rfl⟩, ⟨0, by decide, rfl⟩⟩, ⟨⟨s, hs, rfl⟩, ⟨b, hb, rfl⟩, ⟨1, by decide, rfl⟩⟩, ⟨⟨s, hs, rfl⟩, ⟨b, hb, rfl⟩, ⟨2, by decide, rfl⟩⟩, by repeat' (first | with_reducible rfl | with_reducible trivial | omega | with_reducible apply And.intro | rfl)⟩)
abbrev ws_X11_real : List Cond := Cond.code yX11_real cX11_real 4 (some .int) :: W0
abbrev rm_X11_real : Room := ({ frames := 2, cells := 0, slots := 0, locals := 45 } : Room)
def wb_X11_real_4 (rec : Int32 → Int32 → Int32 → (Nat → Int32) → (Nat → Nat → Int32) → Prop) (P : Int32 → RST → Prop) (x1 : Int32) (x2 : Int32) (x3 : Int32) (r : Nat → Int32) (q : Nat → Nat → Int32) : Prop := (six x1 ∧ pix 4) ∧ (((q 0 (14 + 26 * iv x1 + iv 4)) ≤ x3 → (P x2 (r, q))) ∧ (¬ (q 0 (14 + 26 * iv x1 + iv 4)) ≤ x3 → ((six x1 ∧ bix x3 ∧ fix4 3) ∧ (∀ v4 : Int32, v4 = (x2 + (q 0 (14 + 26 * iv x1 + (6 + 4 * iv x3 + iv 3)))) → (∀ v5 : Int32, v5 = x3 + 1 → (rec x1 v4 v5 r q))))))
def wp_X11_real_4 (P : Int32 → RST → Prop) : Nat → Int32 → Int32 → Int32 → (Nat → Int32) → (Nat → Nat → Int32) → Prop
  | 0 => fun _ _ _ _ _ => False
  | n + 1 => fun x1 x2 x3 r q => wb_X11_real_4 (wp_X11_real_4  P n)  P x1 x2 x3 r q
set_option maxRecDepth 100000 in
set_option maxHeartbeats 4000000 in
theorem t_X11_real_4 {p : Program} {l : Launch} {e : Env} {s : State} {m : MethodId} {args : Array Value} {below : List Frame} {meth : Method} {c : Code} {D : va_G} {A : Nat → Prop} {T : Nat → ClassId} {m0 : Nat} {a : Nat → Nat} (C : GC p s m args meth c cX11_real "FreightRaterModel" (ws_X11_real) 4 D A (zty T)) (hr : meth.sig.returnType = (some .int)) (P : Int32 → RST → Prop) : ∀ (n : Nat) (x1 : Int32) (x2 : Int32) (x3 : Int32) (r : Nat → Int32) (q : Nat → Nat → Int32), wp_X11_real_4  P n x1 x2 x3 r q → GW p l e rm_X11_real s m args below meth c D A 4 0 0 (MQ below (va_Qi P (RE D T m0 a A) A) args s 0 0 A) (RW m0 a T r q) 0 0 4 [(0, .ref m0), (1, .int x1), (2, .int x2), (3, .int x3)] [] := by
  have hw : ∀ {w : Cond}, w ∈ W0 → w.before args s = true := fun h => C.2.2.2.2.1 _ (List.mem_cons_of_mem _ h)
  intro n
  induction n with
  | zero => intro x1 x2 x3 r q h; exact h.elim
  | succ n ih =>
    intro x1 x2 x3 r q h
    replace h : wb_X11_real_4 (wp_X11_real_4  P n)  P x1 x2 x3 r q := h
    unfold wb_X11_real_4 at h
    refine g_iload_n C dX11_real_4 rfl 3 rfl ?_
    refine g_aload_n C dX11_real_5 rfl 0 rfl ?_
    refine g_iload_n C dX11_real_6 rfl 1 rfl ?_
    refine g_iconst (v := 4) C dX11_real_7 (by decide) ?_
    obtain ⟨g1, h⟩ := h
    refine gr_callVf C [.int x1, .int 4] rfl (k_X11_of l D T m0 a x1 4 r q g1) (w0_V 2 C.2.2.2.2.1 kw_2127 kw_2129 ks_79 kw_9 kw_2130 rfl rfl (by decide +kernel) ⟨by decide, by decide⟩) rfl (Nat.le_of_ble_eq_true rfl) (Nat.zero_le _) (Nat.zero_le _) dX11_real_8 ?_
    refine g_icmp_ge (tgt := 30) C dX11_real_11 (by decide) (fun z2 => ?_) (fun z2 => ?_)
    · replace h := h.1 z2
      refine g_iload_n C dX11_real_30 rfl 2 rfl ?_
      exact gr_iret C hr dX11_real_31 h
    · replace h := h.2 z2
      refine g_iload_n C dX11_real_14 rfl 2 rfl ?_
      refine g_aload_n C dX11_real_15 rfl 0 rfl ?_
      refine g_iload_n C dX11_real_16 rfl 1 rfl ?_
      refine g_iload_n C dX11_real_17 rfl 3 rfl ?_
      refine g_iconst (v := 3) C dX11_real_18 (by decide) ?_
      obtain ⟨g3, h⟩ := h
      refine gr_callVf C [.int x1, .int x3, .int 3] rfl (k_X11_side l D T m0 a x1 x3 3 r q g3) (w0_V 3 C.2.2.2.2.1 kw_2147 kw_2149 ks_81 kw_9 kw_2150 rfl rfl (by decide +kernel) ⟨by decide, by decide⟩) rfl (Nat.le_of_ble_eq_true rfl) (Nat.zero_le _) (Nat.zero_le _) dX11_real_19 ?_
      refine g_iadd C dX11_real_22 ?_
      refine g_topi (fun v4 ev4 => ?_)
      replace h := h v4 ev4
      refine g_istore_n (lv' := [(2, .int v4), (0, .ref m0), (1, .int x1), (3, .int x3)]) C dX11_real_23 rfl (by decide) rfl ?_
      obtain ⟨v5, ev5⟩ : ∃ y : Int32, y = x3 + 1 := ⟨_, rfl⟩
      replace h := h v5 ev5
      refine g_iinc (v := v5) (lv' := [(3, .int v5), (2, .int v4), (0, .ref m0), (1, .int x1)]) C dX11_real_24 (j := 3) rfl (by rw [ev5]; rfl) (by decide) rfl ?_
      refine g_goto (tgt := 4) C dX11_real_27 (by decide) ?_
      refine g_locals [2, 3, 1, 0] rfl ?_
      exact ih x1 v4 v5 r q h
def wp_X11_real (P : Int32 → RST → Prop) (p0 : Int32) (r : Nat → Int32) (q : Nat → Nat → Int32) : Prop := ∃ k6 : Nat, wp_X11_real_4  P k6 p0 0 0 r q
set_option maxRecDepth 100000 in
set_option maxHeartbeats 4000000 in
theorem t_X11_real {p : Program} {l : Launch} {e : Env} {s : State} {m : MethodId} {args : Array Value} {below : List Frame} {meth : Method} {c : Code} {D : va_G} {A : Nat → Prop} {T : Nat → ClassId} {m0 : Nat} {a : Nat → Nat} (C : GC p s m args meth c cX11_real "FreightRaterModel" (ws_X11_real) 4 D A (zty T)) (hr : meth.sig.returnType = (some .int)) (P : Int32 → RST → Prop) : ∀ (p0 : Int32) (r : Nat → Int32) (q : Nat → Nat → Int32), wp_X11_real P p0 r q → GW p l e rm_X11_real s m args below meth c D A 4 0 0 (MQ below (va_Qi P (RE D T m0 a A) A) args s 0 0 A) (RW m0 a T r q) 0 0 0 [(0, .ref m0), (1, .int p0)] [] := by
  have hw : ∀ {w : Cond}, w ∈ W0 → w.before args s = true := fun h => C.2.2.2.2.1 _ (List.mem_cons_of_mem _ h)
  intro p0 r q h
  unfold wp_X11_real at h
  refine g_iconst (v := 0) C dX11_real_0 (by decide) ?_
  refine g_istore_n (lv' := [(2, .int 0), (0, .ref m0), (1, .int p0)]) C dX11_real_1 rfl (by decide) rfl ?_
  refine g_iconst (v := 0) C dX11_real_2 (by decide) ?_
  refine g_istore_n (lv' := [(3, .int 0), (2, .int 0), (0, .ref m0), (1, .int p0)]) C dX11_real_3 rfl (by decide) rfl ?_
  refine g_locals [2, 3, 1, 0] rfl ?_
  obtain ⟨k6, h⟩ := h
  refine t_X11_real_4 C hr  P  k6 p0 0 0 r q h
theorem c_X11_real (l : Launch) (D : va_G) (T : Nat → ClassId) (m0 : Nat) (a : Nat → Nat) (p0 : Int32) (r : Nat → Int32) (q : Nat → Nat → Int32) (P : Int32 → RST → Prop) (h : wp_X11_real P p0 r q) : RMi l yX11_real (ws_X11_real) rm_X11_real D T m0 a [.ref m0, .int p0] r q P := gr_meti (by decide) rfl rfl (Nat.le_of_ble_eq_true rfl) (fun p e s m args below meth c A C hr => t_X11_real C hr P p0 r q h)
theorem rl_real {P : Int32 → RST → Prop} {r : Nat → Int32} {q : Nat → Nat → Int32} {s n0 : Nat} (hs : s < 10) (hn0 : n0 ≤ 5) (hm : q 0 (14 + 26 * s + 4) = nI n0) : ∀ (k p fuel : Nat) (n : Int32), p + k = n0 → k < fuel → P (realFold (q 0) s k p n) (r, q) → wp_X11_real_4 P fuel (nI s) n (nI p) r q := by
  intro k
  induction k with
  | zero =>
    intro p fuel n hp hf h
    obtain ⟨f, rfl⟩ : ∃ f, fuel = f + 1 := ⟨fuel - 1, by omega⟩
    rw [wp_X11_real_4]; unfold wb_X11_real_4
    simp (disch := omega) only [li_2, li_3, li_4, li_5, li_6, li_7, li_8, li_9, li_10, li_12, li_14, li_20, li_26, li_30, li_31, li_36, li_38, li_47, li_48, li_50, li_57, li_58, li_80, li_98, li_99, li_100, li_102, li_104, li_105, li_108, li_109, li_110, li_114, li_115, li_119, li_122, li_137, li_146, li_147, li_148, li_149, li_150, li_200, li_255, li_256, li_274, li_510, li_512, li_640, li_999, li_1000, li_1024, li_3334, li_5000, li_9999, li_10000, li_23338, li_26672, li_30000, li_99999, li_150000, li_300000, pk_mul, nI_add, pk_sub, nI_clamp, nI_1, nI_p1, nI_a0, nI_0a, nI_m0, nI_m1, cl_0, cl_1, z01, z11]
    rw [hm]
    exact ⟨⟨⟨s, hs, rfl⟩, ⟨4, by decide, rfl⟩⟩, fun _ => h, fun h => absurd (nI_le (by omega) (by omega)) h⟩
  | succ k ih =>
    intro p fuel n hp hf h
    obtain ⟨f, rfl⟩ : ∃ f, fuel = f + 1 := ⟨fuel - 1, by omega⟩
    rw [wp_X11_real_4]; unfold wb_X11_real_4
    simp (disch := omega) only [li_2, li_3, li_4, li_5, li_6, li_7, li_8, li_9, li_10, li_12, li_14, li_20, li_26, li_30, li_31, li_36, li_38, li_47, li_48, li_50, li_57, li_58, li_80, li_98, li_99, li_100, li_102, li_104, li_105, li_108, li_109, li_110, li_114, li_115, li_119, li_122, li_137, li_146, li_147, li_148, li_149, li_150, li_200, li_255, li_256, li_274, li_510, li_512, li_640, li_999, li_1000, li_1024, li_3334, li_5000, li_9999, li_10000, li_23338, li_26672, li_30000, li_99999, li_150000, li_300000, pk_mul, nI_add, pk_sub, nI_clamp, nI_1, nI_p1, nI_a0, nI_0a, nI_m0, nI_m1, cl_0, cl_1, z01, z11]
    rw [hm]
    refine ⟨⟨⟨s, hs, rfl⟩, ⟨4, by decide, rfl⟩⟩, fun h => absurd h (nI_ge (by omega) (by omega)), fun _ => ⟨⟨⟨s, hs, rfl⟩, ⟨p, by omega, rfl⟩, ⟨3, by decide, rfl⟩⟩, fun v4 e4 v5 e5 => ?_⟩⟩
    subst e4 e5
    exact ih (p + 1) f _ (by omega) (by omega) h
theorem k_X11_real (l : Launch) (D : va_G) (T : Nat → ClassId) (m0 : Nat) (a : Nat → Nat) (p0 : Int32) (r : Nat → Int32) (q : Nat → Nat → Int32) (h : WF (q 0) ∧ six p0) : RMi l yX11_real (ws_X11_real) rm_X11_real D T m0 a [.ref m0, .int p0] r q (fun v u => v = (realF (q 0) (iv p0)) ∧ u = (r, q)) := c_X11_real l D T m0 a p0 r q _ <|
  (by
    obtain ⟨hw, ⟨s, hs, rfl⟩⟩ := h
    obtain ⟨n0, hn0, hm⟩ := hw.pcs hs
    unfold wp_X11_real
    refine ⟨n0 + 1, rl_real (P := fun v u => v = realF (q 0) (iv (nI s)) ∧ u = (r, q)) hs hn0 hm n0 0 _ 0 (by omega) (by omega) ⟨?_, rfl⟩⟩
    unfold realF
    simp (disch := omega) only [nI_clamp, hm])
abbrev ws_X11_lowest : List Cond := Cond.code yX11_lowest cX11_lowest 2 (some .int) :: W0
abbrev rm_X11_lowest : Room := ({ frames := 1, cells := 0, slots := 0, locals := 21 } : Room)
def wb_X11_lowest_2 (rec : Int32 → Int32 → (Nat → Int32) → (Nat → Nat → Int32) → Prop) (P : Int32 → RST → Prop) (x0 : Int32) (x1 : Int32) (r : Nat → Int32) (q : Nat → Nat → Int32) : Prop := (¬ (hasF x0 x1) = 0 → (P x1 (r, q))) ∧ ((hasF x0 x1) = 0 → (∀ v2 : Int32, v2 = x1 + 1 → (rec x0 v2 r q)))
def wp_X11_lowest_2 (P : Int32 → RST → Prop) : Nat → Int32 → Int32 → (Nat → Int32) → (Nat → Nat → Int32) → Prop
  | 0 => fun _ _ _ _ => False
  | n + 1 => fun x0 x1 r q => wb_X11_lowest_2 (wp_X11_lowest_2  P n)  P x0 x1 r q
set_option maxRecDepth 100000 in
set_option maxHeartbeats 4000000 in
theorem t_X11_lowest_2 {p : Program} {l : Launch} {e : Env} {s : State} {m : MethodId} {args : Array Value} {below : List Frame} {meth : Method} {c : Code} {D : va_G} {A : Nat → Prop} {T : Nat → ClassId} {m0 : Nat} {a : Nat → Nat} (C : GC p s m args meth c cX11_lowest "FreightRaterModel" (ws_X11_lowest) 2 D A (zty T)) (hr : meth.sig.returnType = (some .int)) (P : Int32 → RST → Prop) : ∀ (n : Nat) (x0 : Int32) (x1 : Int32) (r : Nat → Int32) (q : Nat → Nat → Int32), wp_X11_lowest_2  P n x0 x1 r q → GW p l e rm_X11_lowest s m args below meth c D A 2 0 0 (MQ below (va_Qi P (RE D T m0 a A) A) args s 0 0 A) (RW m0 a T r q) 0 0 2 [(0, .int x0), (1, .int x1)] [] := by
  have hw : ∀ {w : Cond}, w ∈ W0 → w.before args s = true := fun h => C.2.2.2.2.1 _ (List.mem_cons_of_mem _ h)
  intro n
  induction n with
  | zero => intro x0 x1 r q h; exact h.elim
  | succ n ih =>
    intro x0 x1 r q h
    replace h : wb_X11_lowest_2 (wp_X11_lowest_2  P n)  P x0 x1 r q := h
    unfold wb_X11_lowest_2 at h
    refine g_iload_n C dX11_lowest_2 rfl 0 rfl ?_
    refine g_iload_n C dX11_lowest_3 rfl 1 rfl ?_
    refine gr_callSf C [.int x0, .int x1] rfl (k_X11_has l D T m0 a x0 x1 r q) (w0_S 2 C.2.2.2.2.1 kw_2178 kw_2179 kw_9 kw_2180 rfl rfl (by decide +kernel) ⟨by decide, by decide⟩) rfl (Nat.le_of_ble_eq_true rfl) (Nat.zero_le _) (Nat.zero_le _) dX11_lowest_4 ?_
    refine g_if_ne (tgt := 16) C dX11_lowest_7 (by decide) (fun z1 => ?_) (fun z1 => ?_)
    · replace h := h.1 z1
      refine g_iload_n C dX11_lowest_16 rfl 1 rfl ?_
      exact gr_iret C hr dX11_lowest_17 h
    · replace h := h.2 z1
      obtain ⟨v2, ev2⟩ : ∃ y : Int32, y = x1 + 1 := ⟨_, rfl⟩
      replace h := h v2 ev2
      refine g_iinc (v := v2) (lv' := [(1, .int v2), (0, .int x0)]) C dX11_lowest_10 (j := 1) rfl (by rw [ev2]; rfl) (by decide) rfl ?_
      refine g_goto (tgt := 2) C dX11_lowest_13 (by decide) ?_
      refine g_locals [1, 0] rfl ?_
      exact ih x0 v2 r q h
def wp_X11_lowest (P : Int32 → RST → Prop) (p0 : Int32) (r : Nat → Int32) (q : Nat → Nat → Int32) : Prop := ∃ k3 : Nat, wp_X11_lowest_2  P k3 p0 0 r q
set_option maxRecDepth 100000 in
set_option maxHeartbeats 4000000 in
theorem t_X11_lowest {p : Program} {l : Launch} {e : Env} {s : State} {m : MethodId} {args : Array Value} {below : List Frame} {meth : Method} {c : Code} {D : va_G} {A : Nat → Prop} {T : Nat → ClassId} {m0 : Nat} {a : Nat → Nat} (C : GC p s m args meth c cX11_lowest "FreightRaterModel" (ws_X11_lowest) 2 D A (zty T)) (hr : meth.sig.returnType = (some .int)) (P : Int32 → RST → Prop) : ∀ (p0 : Int32) (r : Nat → Int32) (q : Nat → Nat → Int32), wp_X11_lowest P p0 r q → GW p l e rm_X11_lowest s m args below meth c D A 2 0 0 (MQ below (va_Qi P (RE D T m0 a A) A) args s 0 0 A) (RW m0 a T r q) 0 0 0 [(0, .int p0)] [] := by
  have hw : ∀ {w : Cond}, w ∈ W0 → w.before args s = true := fun h => C.2.2.2.2.1 _ (List.mem_cons_of_mem _ h)
  intro p0 r q h
  unfold wp_X11_lowest at h
  refine g_iconst (v := 0) C dX11_lowest_0 (by decide) ?_
  refine g_istore_n (lv' := [(1, .int 0), (0, .int p0)]) C dX11_lowest_1 rfl (by decide) rfl ?_
  refine g_locals [1, 0] rfl ?_
  obtain ⟨k3, h⟩ := h
  refine t_X11_lowest_2 C hr  P  k3 p0 0 r q h
theorem c_X11_lowest (l : Launch) (D : va_G) (T : Nat → ClassId) (m0 : Nat) (a : Nat → Nat) (p0 : Int32) (r : Nat → Int32) (q : Nat → Nat → Int32) (P : Int32 → RST → Prop) (h : wp_X11_lowest P p0 r q) : RMi l yX11_lowest (ws_X11_lowest) rm_X11_lowest D T m0 a [.int p0] r q P := gr_meti (by decide) rfl rfl (Nat.le_of_ble_eq_true rfl) (fun p e s m args below meth c A C hr => t_X11_lowest C hr P p0 r q h)
theorem rl_lowest {P : Int32 → RST → Prop} {r : Nat → Int32} {q : Nat → Nat → Int32} {n : Nat} (hn : n < 1024) (h0 : n ≠ 0) : ∀ (k s fuel : Nat), s + k = 10 → k < fuel → lowFold n k s < 10 → P (nI (lowFold n k s)) (r, q) → wp_X11_lowest_2 P fuel (nI n) (nI s) r q := by
  intro k
  induction k with
  | zero => intro s fuel hs hf hl h; exact absurd hl (by show ¬ s < 10; omega)
  | succ k ih =>
    intro s fuel hs hf hl h
    obtain ⟨f, rfl⟩ : ∃ f, fuel = f + 1 := ⟨fuel - 1, by omega⟩
    rw [wp_X11_lowest_2]; unfold wb_X11_lowest_2
    have el : lowFold n (k + 1) s = if n.testBit s then s else lowFold n k (s + 1) := rfl
    rw [el] at hl h
    refine ⟨fun z => ?_, fun z v2 e2 => ?_⟩
    · rw [has_0 hn (by omega)] at z
      rw [if_pos (by simpa using z)] at h
      exact h
    · have z2 := (has_0 hn (by omega)).mp z
      rw [if_neg z2] at h hl
      subst e2
      simp (disch := omega) only [li_2, li_3, li_4, li_5, li_6, li_7, li_8, li_9, li_10, li_12, li_14, li_20, li_26, li_30, li_31, li_36, li_38, li_47, li_48, li_50, li_57, li_58, li_80, li_98, li_99, li_100, li_102, li_104, li_105, li_108, li_109, li_110, li_114, li_115, li_119, li_122, li_137, li_146, li_147, li_148, li_149, li_150, li_200, li_255, li_256, li_274, li_510, li_512, li_640, li_999, li_1000, li_1024, li_3334, li_5000, li_9999, li_10000, li_23338, li_26672, li_30000, li_99999, li_150000, li_300000, pk_mul, nI_add, pk_sub, nI_clamp, nI_1, nI_p1, nI_a0, nI_0a, nI_m0, nI_m1, cl_0, cl_1, z01, z11]
      exact ih (s + 1) f (by omega) (by omega) hl h
theorem k_X11_lowest (l : Launch) (D : va_G) (T : Nat → ClassId) (m0 : Nat) (a : Nat → Nat) (p0 : Int32) (r : Nat → Int32) (q : Nat → Nat → Int32) (h : gix p0 ∧ ¬ p0 = (0 : Int32)) : RMi l yX11_lowest (ws_X11_lowest) rm_X11_lowest D T m0 a [.int p0] r q (fun v u => v = (nI (lowN (iv p0))) ∧ u = (r, q)) := c_X11_lowest l D T m0 a p0 r q _ <|
  (by
    obtain ⟨⟨n, hn, rfl⟩, hz⟩ := h
    have h0 : n ≠ 0 := fun e => hz (by rw [e]; rfl)
    unfold wp_X11_lowest
    refine ⟨11, rl_lowest (P := fun v u => v = nI (lowN (iv (nI n))) ∧ u = (r, q)) hn h0 10 0 _ (by omega) (by omega) (low_lt hn h0) ⟨?_, rfl⟩⟩
    simp (disch := omega) only [nI_clamp]
    rfl)

end S_R3S
