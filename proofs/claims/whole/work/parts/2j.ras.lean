section S_RAS
abbrev ws_X11_version : List Cond := Cond.code yX11_version cX11_version 4 (some .int) :: W0
abbrev rm_X11_version : Room := ({ frames := 3, cells := 0, slots := 0, locals := 64 } : Room)
def wp_X11_version_28 (P : Int32 → RST → Prop) (x1 : Int32) (x2 : Int32) (s0 : Int32) (r : Nat → Int32) (q : Nat → Nat → Int32) : Prop := ∀ r3 : Nat → Int32, r3 = va_up r 6 s0 → (((r3 6) ≤ 0 → (∀ v5 : Int32, v5 = (274 + 510 * x1) → ((x2 = 0 → (vp_in (v5 + 0) 3334 ∧ (P (q 0 (Int32.toNatClampNeg (v5 + 0))) (r3, q)))) ∧ (¬ x2 = 0 → ((x2 = 1 → (vp_in (v5 + 1) 3334 ∧ (P (q 0 (Int32.toNatClampNeg (v5 + 1))) (r3, q)))) ∧ (¬ x2 = 1 → ((x2 = 6 → ((vix x1) ∧ (P (eSet (q 0) (iv x1)) (r3, q)))) ∧ (¬ x2 = 6 → ((x2 = 7 → ((vix x1) ∧ (P (aBr (q 0) (iv x1)) (r3, q)))) ∧ (¬ x2 = 7 → (vp_in (((v5 + 146) + x2) - 2) 3334 ∧ (P (q 0 (Int32.toNatClampNeg (((v5 + 146) + x2) - 2))) (r3, q))))))))))))) ∧ (¬ (r3 6) ≤ 0 → (P 0 (r3, q))))
set_option maxRecDepth 100000 in
set_option maxHeartbeats 4000000 in
theorem t_X11_version_28 {p : Program} {l : Launch} {e : Env} {s : State} {m : MethodId} {args : Array Value} {below : List Frame} {meth : Method} {c : Code} {D : va_G} {A : Nat → Prop} {T : Nat → ClassId} {m0 : Nat} {a : Nat → Nat} (C : GC p s m args meth c cX11_version "FreightRaterModel" (ws_X11_version) 4 D A (zty T)) (hr : meth.sig.returnType = (some .int)) (P : Int32 → RST → Prop) : ∀ (x1 : Int32) (x2 : Int32) (s0 : Int32) (r : Nat → Int32) (q : Nat → Nat → Int32), wp_X11_version_28  P x1 x2 s0 r q → GW p l e rm_X11_version s m args below meth c D A 4 0 0 (MQ below (va_Qi P (RE D T m0 a A) A) args s 0 0 A) (RW m0 a T r q) 0 0 28 [(0, .ref m0), (1, .int x1), (2, .int x2)] [.int s0, .ref m0] := by
  have hw : ∀ {w : Cond}, w ∈ W0 → w.before args s = true := fun h => C.2.2.2.2.1 _ (List.mem_cons_of_mem _ h)
  intro x1 x2 s0 r q h
  unfold wp_X11_version_28 at h
  refine gr_put_6 C iwx_X11 (hw kw_1815) dX11_version_28 ?_
  refine gr_nr (fun r3 er3 => ?_)
  replace h := h r3 er3
  refine g_aload_n C dX11_version_31 rfl 0 rfl ?_
  refine gr_get C iwx_X11 6 (hw kw_1815) (by decide) rfl rfl dX11_version_32 ?_
  refine g_if_le (tgt := 40) C dX11_version_35 (by decide) (fun z4 => ?_) (fun z4 => ?_)
  · replace h := h.1 z4
    refine g_iload_n C dX11_version_40 rfl 1 rfl ?_
    refine gr_callSf C [.int x1] rfl (k_X11_at l D T m0 a x1 r3 q) (w0_S 1 C.2.2.2.2.1 kw_1947 kw_1948 kw_9 kw_1949 rfl rfl (by decide +kernel) ⟨by decide, by decide⟩) rfl (Nat.le_of_ble_eq_true rfl) (Nat.zero_le _) (Nat.zero_le _) dX11_version_41 ?_
    refine g_topi (fun v5 ev5 => ?_)
    replace h := h v5 ev5
    refine g_istore_n (lv' := [(3, .int v5), (0, .ref m0), (1, .int x1), (2, .int x2)]) C dX11_version_44 rfl (by decide) rfl ?_
    refine g_iload_n C dX11_version_45 rfl 3 rfl ?_
    rcases Decidable.em (x2 = 0) with z6 | z6
    · refine g_tableIn (off := 46) (tgt := 92) C dX11_version_46 (by rw [z6]; decide) (by rw [z6]; decide) (by rw [z6]; decide) (by decide) ?_
      replace h := h.1 z6
      refine g_aload_n C dX11_version_92 rfl 1 rfl ?_
      refine gr_get C iwx_X11 0 (hw kw_1809) (by decide) rfl rfl dX11_version_93 ?_
      refine g_iload_n C dX11_version_96 rfl 0 rfl ?_
      refine g_iconst (v := 0) C dX11_version_97 (by decide) ?_
      refine g_iadd C dX11_version_98 ?_
      obtain ⟨g7, h⟩ := h
      refine gr_ald_0 C g7 dX11_version_99 ?_
      exact gr_iret C hr dX11_version_100 h
    replace h := h.2 z6
    rcases Decidable.em (x2 = 1) with z8 | z8
    · refine g_tableIn (off := 55) (tgt := 101) C dX11_version_46 (by rw [z8]; decide) (by rw [z8]; decide) (by rw [z8]; decide) (by decide) ?_
      replace h := h.1 z8
      refine g_aload_n C dX11_version_101 rfl 1 rfl ?_
      refine gr_get C iwx_X11 0 (hw kw_1809) (by decide) rfl rfl dX11_version_102 ?_
      refine g_iload_n C dX11_version_105 rfl 0 rfl ?_
      refine g_iconst (v := 1) C dX11_version_106 (by decide) ?_
      refine g_iadd C dX11_version_107 ?_
      obtain ⟨g9, h⟩ := h
      refine gr_ald_0 C g9 dX11_version_108 ?_
      exact gr_iret C hr dX11_version_109 h
    replace h := h.2 z8
    rcases Decidable.em (x2 = 6) with z10 | z10
    · refine g_tableIn (off := 64) (tgt := 110) C dX11_version_46 (by rw [z10]; decide) (by rw [z10]; decide) (by rw [z10]; decide) (by decide) ?_
      replace h := h.1 z10
      refine g_aload_n C dX11_version_110 rfl 1 rfl ?_
      refine g_iload_n C dX11_version_111 rfl 2 rfl ?_
      obtain ⟨g11, h⟩ := h
      refine gr_callVf C [.int x1] rfl (k_X11_extras l D T m0 a x1 r3 q g11) (w0_V 1 C.2.2.2.2.1 kw_1974 kw_1976 ks_54 kw_9 kw_1977 rfl rfl (by decide +kernel) ⟨by decide, by decide⟩) rfl (Nat.le_of_ble_eq_true rfl) (Nat.zero_le _) (Nat.zero_le _) dX11_version_112 ?_
      exact gr_iret C hr dX11_version_115 h
    replace h := h.2 z10
    rcases Decidable.em (x2 = 7) with z12 | z12
    · refine g_tableIn (off := 70) (tgt := 116) C dX11_version_46 (by rw [z12]; decide) (by rw [z12]; decide) (by rw [z12]; decide) (by decide) ?_
      replace h := h.1 z12
      refine g_aload_n C dX11_version_116 rfl 1 rfl ?_
      refine g_iload_n C dX11_version_117 rfl 2 rfl ?_
      obtain ⟨g13, h⟩ := h
      refine gr_callVf C [.int x1] rfl (k_X11_allBreaks l D T m0 a x1 r3 q g13) (w0_V 1 C.2.2.2.2.1 kw_1981 kw_1983 ks_55 kw_9 kw_1984 rfl rfl (by decide +kernel) ⟨by decide, by decide⟩) rfl (Nat.le_of_ble_eq_true rfl) (Nat.zero_le _) (Nat.zero_le _) dX11_version_118 ?_
      exact gr_iret C hr dX11_version_121 h
    replace h := h.2 z12
    refine g_tableD (tgt := 122) C dX11_version_46 (by decide) (fun j hj => ?_) (by decide) ?_
    · rcases (show j = 0 ∨ j = 1 ∨ j = 2 ∨ j = 3 ∨ j = 4 ∨ j = 5 ∨ j = 6 ∨ j = 7 by have hj2 : j < 8 := hj; omega) with rfl | rfl | rfl | rfl | rfl | rfl | rfl | rfl <;> first | exact Or.inr rfl | exact Or.inl (by first | exact lv_neT z6 rfl | exact lv_neT z8 rfl | exact lv_neT z10 rfl | exact lv_neT z12 rfl)
    refine g_aload_n C dX11_version_122 rfl 1 rfl ?_
    refine gr_get C iwx_X11 0 (hw kw_1809) (by decide) rfl rfl dX11_version_123 ?_
    refine g_iload_n C dX11_version_126 rfl 0 rfl ?_
    refine g_sipush (v := 146) C dX11_version_127 (by decide) ?_
    refine g_iadd C dX11_version_130 ?_
    refine g_iload_n C dX11_version_131 rfl 3 rfl ?_
    refine g_iadd C dX11_version_132 ?_
    refine g_iconst (v := 2) C dX11_version_133 (by decide) ?_
    refine g_isub C dX11_version_134 ?_
    obtain ⟨g14, h⟩ := h
    refine gr_ald_0 C g14 dX11_version_135 ?_
    exact gr_iret C hr dX11_version_136 h
  · replace h := h.2 z4
    refine g_iconst (v := 0) C dX11_version_38 (by decide) ?_
    exact gr_iret C hr dX11_version_39 h
def wp_X11_version (P : Int32 → RST → Prop) (p0 : Int32) (p1 : Int32) (r : Nat → Int32) (q : Nat → Nat → Int32) : Prop := (¬ (zin p0 0 (q 0 0 - 1)) = 0 → ((¬ (zin p1 0 7) = 0 → (wp_X11_version_28  P p0 p1 0 r q)) ∧ ((zin p1 0 7) = 0 → (wp_X11_version_28  P p0 p1 2 r q)))) ∧ ((zin p0 0 (q 0 0 - 1)) = 0 → (wp_X11_version_28  P p0 p1 1 r q))
set_option maxRecDepth 100000 in
set_option maxHeartbeats 4000000 in
theorem t_X11_version {p : Program} {l : Launch} {e : Env} {s : State} {m : MethodId} {args : Array Value} {below : List Frame} {meth : Method} {c : Code} {D : va_G} {A : Nat → Prop} {T : Nat → ClassId} {m0 : Nat} {a : Nat → Nat} (C : GC p s m args meth c cX11_version "FreightRaterModel" (ws_X11_version) 4 D A (zty T)) (hr : meth.sig.returnType = (some .int)) (P : Int32 → RST → Prop) : ∀ (p0 : Int32) (p1 : Int32) (r : Nat → Int32) (q : Nat → Nat → Int32), wp_X11_version P p0 p1 r q → GW p l e rm_X11_version s m args below meth c D A 4 0 0 (MQ below (va_Qi P (RE D T m0 a A) A) args s 0 0 A) (RW m0 a T r q) 0 0 0 [(0, .ref m0), (1, .int p0), (2, .int p1)] [] := by
  have hw : ∀ {w : Cond}, w ∈ W0 → w.before args s = true := fun h => C.2.2.2.2.1 _ (List.mem_cons_of_mem _ h)
  intro p0 p1 r q h
  unfold wp_X11_version at h
  refine g_aload_n C dX11_version_0 rfl 0 rfl ?_
  refine g_aload_n C dX11_version_1 rfl 0 rfl ?_
  refine g_iload_n C dX11_version_2 rfl 1 rfl ?_
  refine gr_callVf C [.int p0] rfl (k_X11_isVersion l D T m0 a p0 r q) (w0_V 1 C.2.2.2.2.1 kw_1954 kw_1956 ks_51 kw_9 kw_1957 rfl rfl (by decide +kernel) ⟨by decide, by decide⟩) rfl (Nat.le_of_ble_eq_true rfl) (Nat.zero_le _) (Nat.zero_le _) dX11_version_3 ?_
  refine g_if_ne (tgt := 13) C dX11_version_6 (by decide) (fun z1 => ?_) (fun z1 => ?_)
  · replace h := h.1 z1
    refine g_iload_n C dX11_version_13 rfl 2 rfl ?_
    refine g_iconst (v := 0) C dX11_version_14 (by decide) ?_
    refine g_bipush (v := 7) C dX11_version_15 (by decide) ?_
    refine gr_callSf C [.int p1, .int 0, .int 7] rfl (k_X11_in l D T m0 a p1 0 7 r q) (w0_S 3 C.2.2.2.2.1 kw_1944 kw_1945 kw_9 kw_1946 rfl rfl (by decide +kernel) ⟨by decide, by decide⟩) rfl (Nat.le_of_ble_eq_true rfl) (Nat.zero_le _) (Nat.zero_le _) dX11_version_17 ?_
    refine g_if_ne (tgt := 27) C dX11_version_20 (by decide) (fun z2 => ?_) (fun z2 => ?_)
    · replace h := h.1 z2
      refine g_iconst (v := 0) C dX11_version_27 (by decide) ?_
      refine g_locals [0, 1, 2] rfl ?_
      refine t_X11_version_28 C hr  P  p0 p1 0 r q h
    · replace h := h.2 z2
      refine g_iconst (v := 2) C dX11_version_23 (by decide) ?_
      refine g_goto (tgt := 28) C dX11_version_24 (by decide) ?_
      refine g_locals [0, 1, 2] rfl ?_
      refine t_X11_version_28 C hr  P  p0 p1 2 r q h
  · replace h := h.2 z1
    refine g_iconst (v := 1) C dX11_version_9 (by decide) ?_
    refine g_goto (tgt := 28) C dX11_version_10 (by decide) ?_
    refine g_locals [0, 1, 2] rfl ?_
    refine t_X11_version_28 C hr  P  p0 p1 1 r q h
theorem c_X11_version (l : Launch) (D : va_G) (T : Nat → ClassId) (m0 : Nat) (a : Nat → Nat) (p0 : Int32) (p1 : Int32) (r : Nat → Int32) (q : Nat → Nat → Int32) (P : Int32 → RST → Prop) (h : wp_X11_version P p0 p1 r q) : RMi l yX11_version (ws_X11_version) rm_X11_version D T m0 a [.ref m0, .int p0, .int p1] r q P := gr_meti (by decide) rfl rfl (Nat.le_of_ble_eq_true rfl) (fun p e s m args below meth c A C hr => t_X11_version C hr P p0 p1 r q h)
theorem w_version28 {P : Int32 → RST → Prop} {r : Nat → Int32} {q : Nat → Nat → Int32} {p w : Int32} {C : Int32} (hC : (C = 0 ∧ ∃ v, v < 6 ∧ p = nI v ∧ ∃ j, j ≤ 7 ∧ w = nI j) ∨ C = 1 ∨ C = 2) (hP : ∀ v : Int32, (C = 0 → v = verA (q 0) (iv p) w) → P v (va_up r 6 C, q)) : wp_X11_version_28 P p w C r q := by
  unfold wp_X11_version_28
  rcases hC with ⟨rfl, v, hv, rfl, j, hj, rfl⟩ | rfl | rfl
  · refine code_0 ?_
    intro v5 e5
    subst e5
    unfold verA at hP
    simp (disch := omega) only [li_2, li_3, li_4, li_5, li_6, li_7, li_8, li_9, li_10, li_12, li_14, li_20, li_26, li_30, li_31, li_36, li_38, li_47, li_48, li_50, li_57, li_58, li_80, li_98, li_99, li_100, li_102, li_104, li_105, li_108, li_109, li_110, li_114, li_115, li_119, li_122, li_137, li_146, li_147, li_148, li_149, li_150, li_200, li_255, li_256, li_274, li_510, li_512, li_640, li_999, li_1000, li_1024, li_3334, li_5000, li_9999, li_10000, li_23338, li_26672, li_30000, li_99999, li_150000, li_300000, pk_mul, nI_add, pk_sub, nI_clamp, nI_1, nI_p1, nI_a0, nI_0a, nI_m0, nI_m1, cl_0, cl_1, z01, z11, nI_leI, nI_ltI, nI_eq, nz_lt0, nz_le, nz_eq0, nz_pos, nz_le0, nz_eq1, nz_lt1, nz_ge1, nz_le1, nz_gt1, nz_vp, nz_vp0, nz_vp1, six_nI, vix_nI, bix_nI, pix_nI, fix_nI, gix_nI, rix_nI, zix_nI, pix_0, pix_1, bix_0, fix_0, fix_1, rix_1, true_and, and_true] at hP ⊢
    refine ⟨fun c => ⟨by omega, hP _ (fun _ => by rw [if_pos c])⟩, fun c => ⟨fun c2 => ⟨by omega, hP _ (fun _ => by rw [if_neg c, if_pos c2])⟩, fun c2 => ⟨fun c3 => ⟨by omega, hP _ (fun _ => by rw [if_neg c, if_neg c2, if_pos c3])⟩, fun c3 => ⟨fun c4 => ⟨by omega, hP _ (fun _ => by rw [if_neg c, if_neg c2, if_neg c3, if_pos c4])⟩, fun c4 => ⟨by omega, hP _ (fun _ => by rw [if_neg c, if_neg c2, if_neg c3, if_neg c4])⟩⟩⟩⟩⟩
  · exact code_p (by decide) (hP 0 (fun z => absurd z (by decide)))
  · exact code_p (by decide) (hP 0 (fun z => absurd z (by decide)))
theorem k_X11_version (l : Launch) (D : va_G) (T : Nat → ClassId) (m0 : Nat) (a : Nat → Nat) (p0 : Int32) (p1 : Int32) (r : Nat → Int32) (q : Nat → Nat → Int32) (h : WF (q 0)) : RMi l yX11_version (ws_X11_version) rm_X11_version D T m0 a [.ref m0, .int p0, .int p1] r q (fun v u => (u.2 = q ∧ kR r u.1 SC ∧ u.1 6 = verC (q 0) p0 p1 ∧ (verC (q 0) p0 p1 = 0 → v = verA (q 0) (iv p0) p1))) := c_X11_version l D T m0 a p0 p1 r q _ <|
  (by
    unfold wp_X11_version verC
    refine ⟨fun c => ⟨fun c2 => ?_, fun c2 => ?_⟩, fun c => ?_⟩
    · obtain ⟨v, n, hv, h6, _, ep⟩ := vers_ix h c
      obtain ⟨j, hj, ew⟩ := zin_n (m := 7) (by decide) c2
      refine w_version28 (Or.inl ⟨rfl, v, by omega, ep, j, hj, ew⟩) (fun x hx => ⟨rfl, kR.rf.up (by decide) _, ?_⟩)
      rw [if_neg c, if_neg c2]
      exact ⟨(by (try dsimp only); exact va_up_self _ _ _), hx⟩
    · refine w_version28 (Or.inr (Or.inr rfl)) (fun x hx => ⟨rfl, kR.rf.up (by decide) _, ?_⟩)
      rw [if_neg c, if_pos c2]
      exact ⟨(by (try dsimp only); exact va_up_self _ _ _), hx⟩
    · refine w_version28 (Or.inr (Or.inl rfl)) (fun x hx => ⟨rfl, kR.rf.up (by decide) _, ?_⟩)
      rw [if_pos c]
      exact ⟨(by (try dsimp only); exact va_up_self _ _ _), hx⟩)
abbrev ws_X11_shipment : List Cond := Cond.code yX11_shipment cX11_shipment 3 (some .int) :: W0
abbrev rm_X11_shipment : Room := ({ frames := 4, cells := 0, slots := 0, locals := 91 } : Room)
def wp_X11_shipment_28 (P : Int32 → RST → Prop) (x1 : Int32) (x2 : Int32) (s0 : Int32) (r : Nat → Int32) (q : Nat → Nat → Int32) : Prop := ∀ r3 : Nat → Int32, r3 = va_up r 6 s0 → (((r3 6) ≤ 0 → ((x2 = 5 → ((WF (q 0) ∧ six x1) ∧ (P (realF (q 0) (iv x1)) (r3, q)))) ∧ (¬ x2 = 5 → ((x2 = 6 → ((WF (q 0) ∧ six x1 ∧ ¬ 1 = (0 : Int32)) ∧ (P (dimF (q 0) (iv x1) 1) (r3, q)))) ∧ (¬ x2 = 6 → ((x2 = 7 → ((WF (q 0) ∧ six x1) ∧ (P (longF (q 0) (iv x1)) (r3, q)))) ∧ (¬ x2 = 7 → ((x2 = 8 → ((six x1 ∧ pix 5) ∧ (P (q 0 (14 + 26 * iv x1 + iv 5)) (r3, q)))) ∧ (¬ x2 = 8 → ((six x1 ∧ pix x2) ∧ (P (q 0 (14 + 26 * iv x1 + iv x2)) (r3, q)))))))))))) ∧ (¬ (r3 6) ≤ 0 → (P 0 (r3, q))))
set_option maxRecDepth 100000 in
set_option maxHeartbeats 4000000 in
theorem t_X11_shipment_28 {p : Program} {l : Launch} {e : Env} {s : State} {m : MethodId} {args : Array Value} {below : List Frame} {meth : Method} {c : Code} {D : va_G} {A : Nat → Prop} {T : Nat → ClassId} {m0 : Nat} {a : Nat → Nat} (C : GC p s m args meth c cX11_shipment "FreightRaterModel" (ws_X11_shipment) 3 D A (zty T)) (hr : meth.sig.returnType = (some .int)) (P : Int32 → RST → Prop) : ∀ (x1 : Int32) (x2 : Int32) (s0 : Int32) (r : Nat → Int32) (q : Nat → Nat → Int32), wp_X11_shipment_28  P x1 x2 s0 r q → GW p l e rm_X11_shipment s m args below meth c D A 3 0 0 (MQ below (va_Qi P (RE D T m0 a A) A) args s 0 0 A) (RW m0 a T r q) 0 0 28 [(0, .ref m0), (1, .int x1), (2, .int x2)] [.int s0, .ref m0] := by
  have hw : ∀ {w : Cond}, w ∈ W0 → w.before args s = true := fun h => C.2.2.2.2.1 _ (List.mem_cons_of_mem _ h)
  intro x1 x2 s0 r q h
  unfold wp_X11_shipment_28 at h
  refine gr_put_6 C iwx_X11 (hw kw_1815) dX11_shipment_28 ?_
  refine gr_nr (fun r3 er3 => ?_)
  replace h := h r3 er3
  refine g_aload_n C dX11_shipment_31 rfl 0 rfl ?_
  refine gr_get C iwx_X11 6 (hw kw_1815) (by decide) rfl rfl dX11_shipment_32 ?_
  refine g_if_le (tgt := 40) C dX11_shipment_35 (by decide) (fun z4 => ?_) (fun z4 => ?_)
  · replace h := h.1 z4
    refine g_iload_n C dX11_shipment_40 rfl 2 rfl ?_
    rcases Decidable.em (x2 = 5) with z5 | z5
    · refine g_tableIn (off := 31) (tgt := 72) C dX11_shipment_41 (by rw [z5]; decide) (by rw [z5]; decide) (by rw [z5]; decide) (by decide) ?_
      replace h := h.1 z5
      refine g_aload_n C dX11_shipment_72 rfl 0 rfl ?_
      refine g_iload_n C dX11_shipment_73 rfl 1 rfl ?_
      obtain ⟨g6, h⟩ := h
      refine gr_callVf C [.int x1] rfl (k_X11_real l D T m0 a x1 r3 q g6) (w0_V 1 C.2.2.2.2.1 kw_2143 kw_2145 ks_80 kw_9 kw_2146 rfl rfl (by decide +kernel) ⟨by decide, by decide⟩) rfl (Nat.le_of_ble_eq_true rfl) (Nat.zero_le _) (Nat.zero_le _) dX11_shipment_74 ?_
      exact gr_iret C hr dX11_shipment_77 h
    replace h := h.2 z5
    rcases Decidable.em (x2 = 6) with z7 | z7
    · refine g_tableIn (off := 37) (tgt := 78) C dX11_shipment_41 (by rw [z7]; decide) (by rw [z7]; decide) (by rw [z7]; decide) (by decide) ?_
      replace h := h.1 z7
      refine g_aload_n C dX11_shipment_78 rfl 0 rfl ?_
      refine g_iload_n C dX11_shipment_79 rfl 1 rfl ?_
      refine g_iconst (v := 1) C dX11_shipment_80 (by decide) ?_
      obtain ⟨g8, h⟩ := h
      refine gr_callVf C [.int x1, .int 1] rfl (k_X11_dimensional l D T m0 a x1 1 r3 q g8) (w0_V 2 C.2.2.2.2.1 kw_2151 kw_2153 ks_82 kw_9 kw_2154 rfl rfl (by decide +kernel) ⟨by decide, by decide⟩) rfl (Nat.le_of_ble_eq_true rfl) (Nat.zero_le _) (Nat.zero_le _) dX11_shipment_81 ?_
      exact gr_iret C hr dX11_shipment_84 h
    replace h := h.2 z7
    rcases Decidable.em (x2 = 7) with z9 | z9
    · refine g_tableIn (off := 44) (tgt := 85) C dX11_shipment_41 (by rw [z9]; decide) (by rw [z9]; decide) (by rw [z9]; decide) (by decide) ?_
      replace h := h.1 z9
      refine g_aload_n C dX11_shipment_85 rfl 0 rfl ?_
      refine g_iload_n C dX11_shipment_86 rfl 1 rfl ?_
      obtain ⟨g10, h⟩ := h
      refine gr_callVf C [.int x1] rfl (k_X11_longest l D T m0 a x1 r3 q g10) (w0_V 1 C.2.2.2.2.1 kw_2159 kw_2161 ks_84 kw_9 kw_2162 rfl rfl (by decide +kernel) ⟨by decide, by decide⟩) rfl (Nat.le_of_ble_eq_true rfl) (Nat.zero_le _) (Nat.zero_le _) dX11_shipment_87 ?_
      exact gr_iret C hr dX11_shipment_90 h
    replace h := h.2 z9
    rcases Decidable.em (x2 = 8) with z11 | z11
    · refine g_tableIn (off := 50) (tgt := 91) C dX11_shipment_41 (by rw [z11]; decide) (by rw [z11]; decide) (by rw [z11]; decide) (by decide) ?_
      replace h := h.1 z11
      refine g_aload_n C dX11_shipment_91 rfl 0 rfl ?_
      refine g_iload_n C dX11_shipment_92 rfl 1 rfl ?_
      refine g_iconst (v := 5) C dX11_shipment_93 (by decide) ?_
      obtain ⟨g12, h⟩ := h
      refine gr_callVf C [.int x1, .int 5] rfl (k_X11_of l D T m0 a x1 5 r3 q g12) (w0_V 2 C.2.2.2.2.1 kw_2127 kw_2129 ks_79 kw_9 kw_2130 rfl rfl (by decide +kernel) ⟨by decide, by decide⟩) rfl (Nat.le_of_ble_eq_true rfl) (Nat.zero_le _) (Nat.zero_le _) dX11_shipment_94 ?_
      exact gr_iret C hr dX11_shipment_97 h
    replace h := h.2 z11
    refine g_tableD (tgt := 98) C dX11_shipment_41 (by decide) (fun j hj => ?_) (by decide) ?_
    · rcases (show j = 0 ∨ j = 1 ∨ j = 2 ∨ j = 3 by have hj2 : j < 4 := hj; omega) with rfl | rfl | rfl | rfl <;> first | exact Or.inr rfl | exact Or.inl (by first | exact lv_neT z5 rfl | exact lv_neT z7 rfl | exact lv_neT z9 rfl | exact lv_neT z11 rfl)
    refine g_aload_n C dX11_shipment_98 rfl 0 rfl ?_
    refine g_iload_n C dX11_shipment_99 rfl 1 rfl ?_
    refine g_iload_n C dX11_shipment_100 rfl 2 rfl ?_
    obtain ⟨g13, h⟩ := h
    refine gr_callVf C [.int x1, .int x2] rfl (k_X11_of l D T m0 a x1 x2 r3 q g13) (w0_V 2 C.2.2.2.2.1 kw_2127 kw_2129 ks_79 kw_9 kw_2130 rfl rfl (by decide +kernel) ⟨by decide, by decide⟩) rfl (Nat.le_of_ble_eq_true rfl) (Nat.zero_le _) (Nat.zero_le _) dX11_shipment_101 ?_
    exact gr_iret C hr dX11_shipment_104 h
  · replace h := h.2 z4
    refine g_iconst (v := 0) C dX11_shipment_38 (by decide) ?_
    exact gr_iret C hr dX11_shipment_39 h
def wp_X11_shipment (P : Int32 → RST → Prop) (p0 : Int32) (p1 : Int32) (r : Nat → Int32) (q : Nat → Nat → Int32) : Prop := (¬ (zin p0 0 (q 0 1 - 1)) = 0 → ((¬ (zin p1 0 8) = 0 → (wp_X11_shipment_28  P p0 p1 0 r q)) ∧ ((zin p1 0 8) = 0 → (wp_X11_shipment_28  P p0 p1 2 r q)))) ∧ ((zin p0 0 (q 0 1 - 1)) = 0 → (wp_X11_shipment_28  P p0 p1 1 r q))
set_option maxRecDepth 100000 in
set_option maxHeartbeats 4000000 in
theorem t_X11_shipment {p : Program} {l : Launch} {e : Env} {s : State} {m : MethodId} {args : Array Value} {below : List Frame} {meth : Method} {c : Code} {D : va_G} {A : Nat → Prop} {T : Nat → ClassId} {m0 : Nat} {a : Nat → Nat} (C : GC p s m args meth c cX11_shipment "FreightRaterModel" (ws_X11_shipment) 3 D A (zty T)) (hr : meth.sig.returnType = (some .int)) (P : Int32 → RST → Prop) : ∀ (p0 : Int32) (p1 : Int32) (r : Nat → Int32) (q : Nat → Nat → Int32), wp_X11_shipment P p0 p1 r q → GW p l e rm_X11_shipment s m args below meth c D A 3 0 0 (MQ below (va_Qi P (RE D T m0 a A) A) args s 0 0 A) (RW m0 a T r q) 0 0 0 [(0, .ref m0), (1, .int p0), (2, .int p1)] [] := by
  have hw : ∀ {w : Cond}, w ∈ W0 → w.before args s = true := fun h => C.2.2.2.2.1 _ (List.mem_cons_of_mem _ h)
  intro p0 p1 r q h
  unfold wp_X11_shipment at h
  refine g_aload_n C dX11_shipment_0 rfl 0 rfl ?_
  refine g_aload_n C dX11_shipment_1 rfl 0 rfl ?_
  refine g_iload_n C dX11_shipment_2 rfl 1 rfl ?_
  refine gr_callVf C [.int p0] rfl (k_X11_isShipment l D T m0 a p0 r q) (w0_V 1 C.2.2.2.2.1 kw_2116 kw_2118 ks_77 kw_9 kw_2119 rfl rfl (by decide +kernel) ⟨by decide, by decide⟩) rfl (Nat.le_of_ble_eq_true rfl) (Nat.zero_le _) (Nat.zero_le _) dX11_shipment_3 ?_
  refine g_if_ne (tgt := 13) C dX11_shipment_6 (by decide) (fun z1 => ?_) (fun z1 => ?_)
  · replace h := h.1 z1
    refine g_iload_n C dX11_shipment_13 rfl 2 rfl ?_
    refine g_iconst (v := 0) C dX11_shipment_14 (by decide) ?_
    refine g_bipush (v := 8) C dX11_shipment_15 (by decide) ?_
    refine gr_callSf C [.int p1, .int 0, .int 8] rfl (k_X11_in l D T m0 a p1 0 8 r q) (w0_S 3 C.2.2.2.2.1 kw_1944 kw_1945 kw_9 kw_1946 rfl rfl (by decide +kernel) ⟨by decide, by decide⟩) rfl (Nat.le_of_ble_eq_true rfl) (Nat.zero_le _) (Nat.zero_le _) dX11_shipment_17 ?_
    refine g_if_ne (tgt := 27) C dX11_shipment_20 (by decide) (fun z2 => ?_) (fun z2 => ?_)
    · replace h := h.1 z2
      refine g_iconst (v := 0) C dX11_shipment_27 (by decide) ?_
      refine g_locals [0, 1, 2] rfl ?_
      refine t_X11_shipment_28 C hr  P  p0 p1 0 r q h
    · replace h := h.2 z2
      refine g_iconst (v := 2) C dX11_shipment_23 (by decide) ?_
      refine g_goto (tgt := 28) C dX11_shipment_24 (by decide) ?_
      refine g_locals [0, 1, 2] rfl ?_
      refine t_X11_shipment_28 C hr  P  p0 p1 2 r q h
  · replace h := h.2 z1
    refine g_iconst (v := 1) C dX11_shipment_9 (by decide) ?_
    refine g_goto (tgt := 28) C dX11_shipment_10 (by decide) ?_
    refine g_locals [0, 1, 2] rfl ?_
    refine t_X11_shipment_28 C hr  P  p0 p1 1 r q h
theorem c_X11_shipment (l : Launch) (D : va_G) (T : Nat → ClassId) (m0 : Nat) (a : Nat → Nat) (p0 : Int32) (p1 : Int32) (r : Nat → Int32) (q : Nat → Nat → Int32) (P : Int32 → RST → Prop) (h : wp_X11_shipment P p0 p1 r q) : RMi l yX11_shipment (ws_X11_shipment) rm_X11_shipment D T m0 a [.ref m0, .int p0, .int p1] r q P := gr_meti (by decide) rfl rfl (Nat.le_of_ble_eq_true rfl) (fun p e s m args below meth c A C hr => t_X11_shipment C hr P p0 p1 r q h)
theorem w_shipment28 {P : Int32 → RST → Prop} {r : Nat → Int32} {q : Nat → Nat → Int32} {p w : Int32} {C : Int32} (hw : WF (q 0)) (hC : (C = 0 ∧ ∃ v, v < 10 ∧ p = nI v ∧ ∃ j, j ≤ 8 ∧ w = nI j) ∨ C = 1 ∨ C = 2) (hP : ∀ v : Int32, (C = 0 → v = shpA (q 0) (iv p) w) → P v (va_up r 6 C, q)) : wp_X11_shipment_28 P p w C r q := by
  unfold wp_X11_shipment_28
  rcases hC with ⟨rfl, v, hv, rfl, j, hj, rfl⟩ | rfl | rfl
  · refine code_0 ?_
    unfold shpA at hP
    simp (disch := omega) only [li_2, li_3, li_4, li_5, li_6, li_7, li_8, li_9, li_10, li_12, li_14, li_20, li_26, li_30, li_31, li_36, li_38, li_47, li_48, li_50, li_57, li_58, li_80, li_98, li_99, li_100, li_102, li_104, li_105, li_108, li_109, li_110, li_114, li_115, li_119, li_122, li_137, li_146, li_147, li_148, li_149, li_150, li_200, li_255, li_256, li_274, li_510, li_512, li_640, li_999, li_1000, li_1024, li_3334, li_5000, li_9999, li_10000, li_23338, li_26672, li_30000, li_99999, li_150000, li_300000, pk_mul, nI_add, pk_sub, nI_clamp, nI_1, nI_p1, nI_a0, nI_0a, nI_m0, nI_m1, cl_0, cl_1, z01, z11, nI_leI, nI_ltI, nI_eq, nz_lt0, nz_le, nz_eq0, nz_pos, nz_le0, nz_eq1, nz_lt1, nz_ge1, nz_le1, nz_gt1, nz_vp, nz_vp0, nz_vp1, six_nI, vix_nI, bix_nI, pix_nI, fix_nI, gix_nI, rix_nI, zix_nI, pix_0, pix_1, bix_0, fix_0, fix_1, rix_1, true_and, and_true] at hP ⊢
    refine ⟨fun c => ⟨⟨hw, by omega⟩, hP _ (fun _ => by rw [if_pos c])⟩, fun c => ⟨fun c2 => ⟨⟨hw, by omega, by decide⟩, hP _ (fun _ => by rw [if_neg c, if_pos c2])⟩, fun c2 => ⟨fun c3 => ⟨⟨hw, by omega⟩, hP _ (fun _ => by rw [if_neg c, if_neg c2, if_pos c3])⟩, fun c3 => ⟨fun c4 => ⟨⟨by omega, by omega⟩, hP _ (fun _ => by rw [if_neg c, if_neg c2, if_neg c3, if_pos c4])⟩, fun c4 => ⟨⟨by omega, by omega⟩, hP _ (fun _ => by rw [if_neg c, if_neg c2, if_neg c3, if_neg c4])⟩⟩⟩⟩⟩
  · exact code_p (by decide) (hP 0 (fun z => absurd z (by decide)))
  · exact code_p (by decide) (hP 0 (fun z => absurd z (by decide)))
theorem k_X11_shipment (l : Launch) (D : va_G) (T : Nat → ClassId) (m0 : Nat) (a : Nat → Nat) (p0 : Int32) (p1 : Int32) (r : Nat → Int32) (q : Nat → Nat → Int32) (h : WF (q 0)) : RMi l yX11_shipment (ws_X11_shipment) rm_X11_shipment D T m0 a [.ref m0, .int p0, .int p1] r q (fun v u => (u.2 = q ∧ kR r u.1 SC ∧ u.1 6 = shpC (q 0) p0 p1 ∧ (shpC (q 0) p0 p1 = 0 → v = shpA (q 0) (iv p0) p1))) := c_X11_shipment l D T m0 a p0 p1 r q _ <|
  (by
    unfold wp_X11_shipment shpC
    refine ⟨fun c => ⟨fun c2 => ?_, fun c2 => ?_⟩, fun c => ?_⟩
    · obtain ⟨v, n, hv, h6, _, ep⟩ := ship_ix h c
      obtain ⟨j, hj, ew⟩ := zin_n (m := 8) (by decide) c2
      refine w_shipment28 h (Or.inl ⟨rfl, v, by omega, ep, j, hj, ew⟩) (fun x hx => ⟨rfl, kR.rf.up (by decide) _, ?_⟩)
      rw [if_neg c, if_neg c2]
      exact ⟨(by (try dsimp only); exact va_up_self _ _ _), hx⟩
    · refine w_shipment28 h (Or.inr (Or.inr rfl)) (fun x hx => ⟨rfl, kR.rf.up (by decide) _, ?_⟩)
      rw [if_neg c, if_pos c2]
      exact ⟨(by (try dsimp only); exact va_up_self _ _ _), hx⟩
    · refine w_shipment28 h (Or.inr (Or.inl rfl)) (fun x hx => ⟨rfl, kR.rf.up (by decide) _, ?_⟩)
      rw [if_pos c]
      exact ⟨(by (try dsimp only); exact va_up_self _ _ _), hx⟩)
abbrev ws_X11_breakOf : List Cond := Cond.code yX11_breakOf cX11_breakOf 5 (some .int) :: W0
abbrev rm_X11_breakOf : Room := ({ frames := 2, cells := 0, slots := 0, locals := 43 } : Room)
def wp_X11_breakOf_40 (P : Int32 → RST → Prop) (x1 : Int32) (x2 : Int32) (x3 : Int32) (x4 : Int32) (s0 : Int32) (r : Nat → Int32) (q : Nat → Nat → Int32) : Prop := ∀ r2 : Nat → Int32, r2 = va_up r 6 s0 → (((r2 6) ≤ 0 → ((0 ≤ x3 → ((x4 = 0 → (vp_in ((274 + 510 * x1 + 47 + 10 * (x2 - 1) + 2 * x3) + 0) 3334 ∧ (P (q 0 (Int32.toNatClampNeg ((274 + 510 * x1 + 47 + 10 * (x2 - 1) + 2 * x3) + 0))) (r2, q)))) ∧ (¬ x4 = 0 → (vp_in ((274 + 510 * x1 + 47 + 10 * (x2 - 1) + 2 * x3) + 1) 3334 ∧ (P (q 0 (Int32.toNatClampNeg ((274 + 510 * x1 + 47 + 10 * (x2 - 1) + 2 * x3) + 1))) (r2, q)))))) ∧ (¬ 0 ≤ x3 → ((x4 = 0 → ((vix x1 ∧ zix x2) ∧ (P (q 0 (274 + 510 * iv x1 + 38 + iv x2 - 1)) (r2, q)))) ∧ (¬ x4 = 0 → ((vix x1 ∧ zix x2) ∧ (P (q 0 (274 + 510 * iv x1 + 137 + iv x2 - 1)) (r2, q)))))))) ∧ (¬ (r2 6) ≤ 0 → (P 0 (r2, q))))
set_option maxRecDepth 100000 in
set_option maxHeartbeats 4000000 in
theorem t_X11_breakOf_40 {p : Program} {l : Launch} {e : Env} {s : State} {m : MethodId} {args : Array Value} {below : List Frame} {meth : Method} {c : Code} {D : va_G} {A : Nat → Prop} {T : Nat → ClassId} {m0 : Nat} {a : Nat → Nat} (C : GC p s m args meth c cX11_breakOf "FreightRaterModel" (ws_X11_breakOf) 5 D A (zty T)) (hr : meth.sig.returnType = (some .int)) (P : Int32 → RST → Prop) : ∀ (x1 : Int32) (x2 : Int32) (x3 : Int32) (x4 : Int32) (s0 : Int32) (r : Nat → Int32) (q : Nat → Nat → Int32), wp_X11_breakOf_40  P x1 x2 x3 x4 s0 r q → GW p l e rm_X11_breakOf s m args below meth c D A 5 0 0 (MQ below (va_Qi P (RE D T m0 a A) A) args s 0 0 A) (RW m0 a T r q) 0 0 40 [(0, .ref m0), (1, .int x1), (2, .int x2), (3, .int x3), (4, .int x4)] [.int s0, .ref m0] := by
  have hw : ∀ {w : Cond}, w ∈ W0 → w.before args s = true := fun h => C.2.2.2.2.1 _ (List.mem_cons_of_mem _ h)
  intro x1 x2 x3 x4 s0 r q h
  unfold wp_X11_breakOf_40 at h
  refine gr_put_6 C iwx_X11 (hw kw_1815) dX11_breakOf_40 ?_
  refine gr_nr (fun r2 er2 => ?_)
  replace h := h r2 er2
  refine g_aload_n C dX11_breakOf_43 rfl 0 rfl ?_
  refine gr_get C iwx_X11 6 (hw kw_1815) (by decide) rfl rfl dX11_breakOf_44 ?_
  refine g_if_le (tgt := 52) C dX11_breakOf_47 (by decide) (fun z3 => ?_) (fun z3 => ?_)
  · replace h := h.1 z3
    refine g_iload_n C dX11_breakOf_52 rfl 3 rfl ?_
    refine g_if_ge (tgt := 79) C dX11_breakOf_53 (by decide) (fun z4 => ?_) (fun z4 => ?_)
    · replace h := h.1 z4
      refine g_aload_n C dX11_breakOf_79 rfl 0 rfl ?_
      refine gr_get C iwx_X11 0 (hw kw_1809) (by decide) rfl rfl dX11_breakOf_80 ?_
      refine g_iload_n C dX11_breakOf_83 rfl 1 rfl ?_
      refine g_iload_n C dX11_breakOf_84 rfl 2 rfl ?_
      refine g_iload_n C dX11_breakOf_85 rfl 3 rfl ?_
      refine gr_callSf C [.int x1, .int x2, .int x3] rfl (k_X11_breakAt l D T m0 a x1 x2 x3 r2 q) (w0_S 3 C.2.2.2.2.1 kw_2005 kw_2006 kw_9 kw_2007 rfl rfl (by decide +kernel) ⟨by decide, by decide⟩) rfl (Nat.le_of_ble_eq_true rfl) (Nat.zero_le _) (Nat.zero_le _) dX11_breakOf_86 ?_
      refine g_iload C dX11_breakOf_89 4 rfl ?_
      refine g_if_eq (tgt := 98) C dX11_breakOf_91 (by decide) (fun z5 => ?_) (fun z5 => ?_)
      · replace h := h.1 z5
        refine g_iconst (v := 0) C dX11_breakOf_98 (by decide) ?_
        refine g_iadd C dX11_breakOf_99 ?_
        obtain ⟨g6, h⟩ := h
        refine gr_ald_0 C g6 dX11_breakOf_100 ?_
        exact gr_iret C hr dX11_breakOf_101 h
      · replace h := h.2 z5
        refine g_iconst (v := 1) C dX11_breakOf_94 (by decide) ?_
        refine g_goto (tgt := 99) C dX11_breakOf_95 (by decide) ?_
        refine g_iadd C dX11_breakOf_99 ?_
        obtain ⟨g7, h⟩ := h
        refine gr_ald_0 C g7 dX11_breakOf_100 ?_
        exact gr_iret C hr dX11_breakOf_101 h
    · replace h := h.2 z4
      refine g_iload C dX11_breakOf_56 4 rfl ?_
      refine g_if_eq (tgt := 70) C dX11_breakOf_58 (by decide) (fun z8 => ?_) (fun z8 => ?_)
      · replace h := h.1 z8
        refine g_aload_n C dX11_breakOf_70 rfl 0 rfl ?_
        refine g_iload_n C dX11_breakOf_71 rfl 1 rfl ?_
        refine g_iload_n C dX11_breakOf_72 rfl 2 rfl ?_
        obtain ⟨g9, h⟩ := h
        refine gr_callVf C [.int x1, .int x2] rfl (k_X11_breaks l D T m0 a x1 x2 r2 q g9) (w0_V 2 C.2.2.2.2.1 kw_1997 kw_1999 ks_57 kw_9 kw_2000 rfl rfl (by decide +kernel) ⟨by decide, by decide⟩) rfl (Nat.le_of_ble_eq_true rfl) (Nat.zero_le _) (Nat.zero_le _) dX11_breakOf_73 ?_
        refine g_goto (tgt := 101) C dX11_breakOf_76 (by decide) ?_
        exact gr_iret C hr dX11_breakOf_101 h
      · replace h := h.2 z8
        refine g_aload_n C dX11_breakOf_61 rfl 0 rfl ?_
        refine g_iload_n C dX11_breakOf_62 rfl 1 rfl ?_
        refine g_iload_n C dX11_breakOf_63 rfl 2 rfl ?_
        obtain ⟨g10, h⟩ := h
        refine gr_callVf C [.int x1, .int x2] rfl (k_X11_minimum l D T m0 a x1 x2 r2 q g10) (w0_V 2 C.2.2.2.2.1 kw_2001 kw_2003 ks_58 kw_9 kw_2004 rfl rfl (by decide +kernel) ⟨by decide, by decide⟩) rfl (Nat.le_of_ble_eq_true rfl) (Nat.zero_le _) (Nat.zero_le _) dX11_breakOf_64 ?_
        refine g_goto (tgt := 101) C dX11_breakOf_67 (by decide) ?_
        exact gr_iret C hr dX11_breakOf_101 h
  · replace h := h.2 z3
    refine g_iconst (v := 0) C dX11_breakOf_50 (by decide) ?_
    exact gr_iret C hr dX11_breakOf_51 h
def wp_X11_breakOf (P : Int32 → RST → Prop) (p0 : Int32) (p1 : Int32) (p2 : Int32) (p3 : Int32) (r : Nat → Int32) (q : Nat → Nat → Int32) : Prop := ((zin p0 0 (q 0 0 - 1)) = 0 → (wp_X11_breakOf_40  P p0 p1 p2 p3 1 r q)) ∧ (¬ (zin p0 0 (q 0 0 - 1)) = 0 → (((zin p1 1 9) = 0 → (wp_X11_breakOf_40  P p0 p1 p2 p3 1 r q)) ∧ (¬ (zin p1 1 9) = 0 → ((vix p0 ∧ zix p1) ∧ ((¬ (zin p2 (-1) ((q 0 (274 + 510 * iv p0 + 38 + iv p1 - 1)) - 1)) = 0 → (wp_X11_breakOf_40  P p0 p1 p2 p3 0 r q)) ∧ ((zin p2 (-1) ((q 0 (274 + 510 * iv p0 + 38 + iv p1 - 1)) - 1)) = 0 → (wp_X11_breakOf_40  P p0 p1 p2 p3 1 r q)))))))
set_option maxRecDepth 100000 in
set_option maxHeartbeats 4000000 in
theorem t_X11_breakOf {p : Program} {l : Launch} {e : Env} {s : State} {m : MethodId} {args : Array Value} {below : List Frame} {meth : Method} {c : Code} {D : va_G} {A : Nat → Prop} {T : Nat → ClassId} {m0 : Nat} {a : Nat → Nat} (C : GC p s m args meth c cX11_breakOf "FreightRaterModel" (ws_X11_breakOf) 5 D A (zty T)) (hr : meth.sig.returnType = (some .int)) (P : Int32 → RST → Prop) : ∀ (p0 : Int32) (p1 : Int32) (p2 : Int32) (p3 : Int32) (r : Nat → Int32) (q : Nat → Nat → Int32), wp_X11_breakOf P p0 p1 p2 p3 r q → GW p l e rm_X11_breakOf s m args below meth c D A 5 0 0 (MQ below (va_Qi P (RE D T m0 a A) A) args s 0 0 A) (RW m0 a T r q) 0 0 0 [(0, .ref m0), (1, .int p0), (2, .int p1), (3, .int p2), (4, .int p3)] [] := by
  have hw : ∀ {w : Cond}, w ∈ W0 → w.before args s = true := fun h => C.2.2.2.2.1 _ (List.mem_cons_of_mem _ h)
  intro p0 p1 p2 p3 r q h
  unfold wp_X11_breakOf at h
  refine g_aload_n C dX11_breakOf_0 rfl 0 rfl ?_
  refine g_aload_n C dX11_breakOf_1 rfl 0 rfl ?_
  refine g_iload_n C dX11_breakOf_2 rfl 1 rfl ?_
  refine gr_callVf C [.int p0] rfl (k_X11_isVersion l D T m0 a p0 r q) (w0_V 1 C.2.2.2.2.1 kw_1954 kw_1956 ks_51 kw_9 kw_1957 rfl rfl (by decide +kernel) ⟨by decide, by decide⟩) rfl (Nat.le_of_ble_eq_true rfl) (Nat.zero_le _) (Nat.zero_le _) dX11_breakOf_3 ?_
  refine g_if_eq (tgt := 35) C dX11_breakOf_6 (by decide) (fun z1 => ?_) (fun z1 => ?_)
  · replace h := h.1 z1
    refine g_iconst (v := 1) C dX11_breakOf_35 (by decide) ?_
    refine g_goto (tgt := 40) C dX11_breakOf_36 (by decide) ?_
    refine g_locals [0, 1, 2, 3, 4] rfl ?_
    refine t_X11_breakOf_40 C hr  P  p0 p1 p2 p3 1 r q h
  · replace h := h.2 z1
    refine g_iload_n C dX11_breakOf_9 rfl 2 rfl ?_
    refine g_iconst (v := 1) C dX11_breakOf_10 (by decide) ?_
    refine g_bipush (v := 9) C dX11_breakOf_11 (by decide) ?_
    refine gr_callSf C [.int p1, .int 1, .int 9] rfl (k_X11_in l D T m0 a p1 1 9 r q) (w0_S 3 C.2.2.2.2.1 kw_1944 kw_1945 kw_9 kw_1946 rfl rfl (by decide +kernel) ⟨by decide, by decide⟩) rfl (Nat.le_of_ble_eq_true rfl) (Nat.zero_le _) (Nat.zero_le _) dX11_breakOf_13 ?_
    refine g_if_eq (tgt := 35) C dX11_breakOf_16 (by decide) (fun z11 => ?_) (fun z11 => ?_)
    · replace h := h.1 z11
      refine g_iconst (v := 1) C dX11_breakOf_35 (by decide) ?_
      refine g_goto (tgt := 40) C dX11_breakOf_36 (by decide) ?_
      refine g_locals [0, 1, 2, 3, 4] rfl ?_
      refine t_X11_breakOf_40 C hr  P  p0 p1 p2 p3 1 r q h
    · replace h := h.2 z11
      refine g_iload_n C dX11_breakOf_19 rfl 3 rfl ?_
      refine g_iconst (v := -1) C dX11_breakOf_20 (by decide) ?_
      refine g_aload_n C dX11_breakOf_21 rfl 0 rfl ?_
      refine g_iload_n C dX11_breakOf_22 rfl 1 rfl ?_
      refine g_iload_n C dX11_breakOf_23 rfl 2 rfl ?_
      obtain ⟨g12, h⟩ := h
      refine gr_callVf C [.int p0, .int p1] rfl (k_X11_breaks l D T m0 a p0 p1 r q g12) (w0_V 2 C.2.2.2.2.1 kw_1997 kw_1999 ks_57 kw_9 kw_2000 rfl rfl (by decide +kernel) ⟨by decide, by decide⟩) rfl (Nat.le_of_ble_eq_true rfl) (Nat.zero_le _) (Nat.zero_le _) dX11_breakOf_24 ?_
      refine g_iconst (v := 1) C dX11_breakOf_27 (by decide) ?_
      refine g_isub C dX11_breakOf_28 ?_
      refine gr_callSf C [.int p2, .int (-1), .int ((q 0 (274 + 510 * iv p0 + 38 + iv p1 - 1)) - 1)] rfl (k_X11_in l D T m0 a p2 (-1) ((q 0 (274 + 510 * iv p0 + 38 + iv p1 - 1)) - 1) r q) (w0_S 3 C.2.2.2.2.1 kw_1944 kw_1945 kw_9 kw_1946 rfl rfl (by decide +kernel) ⟨by decide, by decide⟩) rfl (Nat.le_of_ble_eq_true rfl) (Nat.zero_le _) (Nat.zero_le _) dX11_breakOf_29 ?_
      refine g_if_ne (tgt := 39) C dX11_breakOf_32 (by decide) (fun z13 => ?_) (fun z13 => ?_)
      · replace h := h.1 z13
        refine g_iconst (v := 0) C dX11_breakOf_39 (by decide) ?_
        refine g_locals [0, 1, 2, 3, 4] rfl ?_
        refine t_X11_breakOf_40 C hr  P  p0 p1 p2 p3 0 r q h
      · replace h := h.2 z13
        refine g_iconst (v := 1) C dX11_breakOf_35 (by decide) ?_
        refine g_goto (tgt := 40) C dX11_breakOf_36 (by decide) ?_
        refine g_locals [0, 1, 2, 3, 4] rfl ?_
        refine t_X11_breakOf_40 C hr  P  p0 p1 p2 p3 1 r q h
theorem c_X11_breakOf (l : Launch) (D : va_G) (T : Nat → ClassId) (m0 : Nat) (a : Nat → Nat) (p0 : Int32) (p1 : Int32) (p2 : Int32) (p3 : Int32) (r : Nat → Int32) (q : Nat → Nat → Int32) (P : Int32 → RST → Prop) (h : wp_X11_breakOf P p0 p1 p2 p3 r q) : RMi l yX11_breakOf (ws_X11_breakOf) rm_X11_breakOf D T m0 a [.ref m0, .int p0, .int p1, .int p2, .int p3] r q P := gr_meti (by decide) rfl rfl (Nat.le_of_ble_eq_true rfl) (fun p e s m args below meth c A C hr => t_X11_breakOf C hr P p0 p1 p2 p3 r q h)
theorem neg_of {x y : Int32} {n : Nat} (hn : n < 2 ^ 31) (h : ¬ zin x (-1) (nI n - 1) = 0) : x = -1 ∨ ∃ j, j < n ∧ x = nI j := by
  obtain ⟨h1, h2⟩ := zin_0.mp h
  by_cases c : x < 0
  · left
    apply Int32.toInt_inj.mp
    rw [lt_toInt] at c; rw [le_toInt] at h1
    rw [Int32.toInt_zero] at c
    have : (-1 : Int32).toInt = -1 := by decide
    omega
  · right
    obtain ⟨j, hj, e⟩ := zin_m hn (x := x) (zin_0.mpr ⟨Int32.not_lt.mp c, h2⟩)
    exact ⟨j, hj, e⟩
theorem w_breakOf40 {P : Int32 → RST → Prop} {r : Nat → Int32} {q : Nat → Nat → Int32} {p z i b : Int32} {C : Int32} (hC : (C = 0 ∧ ∃ v zn, v < 6 ∧ p = nI v ∧ 1 ≤ zn ∧ zn ≤ 9 ∧ z = nI zn ∧ (i = -1 ∨ ∃ j, j < 5 ∧ i = nI j)) ∨ C = 1) (hP : ∀ v : Int32, (C = 0 → v = brkA (q 0) (iv p) (iv z) i b) → P v (va_up r 6 C, q)) : wp_X11_breakOf_40 P p z i b C r q := by
  unfold wp_X11_breakOf_40
  rcases hC with ⟨rfl, v, zn, hv, rfl, hz1, hz9, rfl, hi⟩ | rfl
  · refine code_0 ?_
    unfold brkA at hP
    rcases hi with rfl | ⟨j, hj, rfl⟩
    · simp (disch := omega) only [li_2, li_3, li_4, li_5, li_6, li_7, li_8, li_9, li_10, li_12, li_14, li_20, li_26, li_30, li_31, li_36, li_38, li_47, li_48, li_50, li_57, li_58, li_80, li_98, li_99, li_100, li_102, li_104, li_105, li_108, li_109, li_110, li_114, li_115, li_119, li_122, li_137, li_146, li_147, li_148, li_149, li_150, li_200, li_255, li_256, li_274, li_510, li_512, li_640, li_999, li_1000, li_1024, li_3334, li_5000, li_9999, li_10000, li_23338, li_26672, li_30000, li_99999, li_150000, li_300000, pk_mul, nI_add, pk_sub, nI_clamp, nI_1, nI_p1, nI_a0, nI_0a, nI_m0, nI_m1, cl_0, cl_1, z01, z11, nI_leI, nI_ltI, nI_eq, nz_lt0, nz_le, nz_eq0, nz_pos, nz_le0, nz_eq1, nz_lt1, nz_ge1, nz_le1, nz_gt1, nz_vp, nz_vp0, nz_vp1, six_nI, vix_nI, bix_nI, pix_nI, fix_nI, gix_nI, rix_nI, zix_nI, pix_0, pix_1, bix_0, fix_0, fix_1, rix_1, true_and, and_true] at hP ⊢
      refine ⟨fun c => absurd c (by decide), fun c => ⟨fun c2 => ⟨⟨by omega, by omega⟩, hP _ (fun _ => by rw [if_neg c, if_pos c2])⟩, fun c2 => ⟨⟨by omega, by omega⟩, hP _ (fun _ => by rw [if_neg c, if_neg c2])⟩⟩⟩
    · simp (disch := omega) only [li_2, li_3, li_4, li_5, li_6, li_7, li_8, li_9, li_10, li_12, li_14, li_20, li_26, li_30, li_31, li_36, li_38, li_47, li_48, li_50, li_57, li_58, li_80, li_98, li_99, li_100, li_102, li_104, li_105, li_108, li_109, li_110, li_114, li_115, li_119, li_122, li_137, li_146, li_147, li_148, li_149, li_150, li_200, li_255, li_256, li_274, li_510, li_512, li_640, li_999, li_1000, li_1024, li_3334, li_5000, li_9999, li_10000, li_23338, li_26672, li_30000, li_99999, li_150000, li_300000, pk_mul, nI_add, pk_sub, nI_clamp, nI_1, nI_p1, nI_a0, nI_0a, nI_m0, nI_m1, cl_0, cl_1, z01, z11, nI_leI, nI_ltI, nI_eq, nz_lt0, nz_le, nz_eq0, nz_pos, nz_le0, nz_eq1, nz_lt1, nz_ge1, nz_le1, nz_gt1, nz_vp, nz_vp0, nz_vp1, six_nI, vix_nI, bix_nI, pix_nI, fix_nI, gix_nI, rix_nI, zix_nI, pix_0, pix_1, bix_0, fix_0, fix_1, rix_1, true_and, and_true] at hP ⊢
      refine ⟨fun c => ⟨fun c2 => ⟨by omega, hP _ (fun _ => by rw [if_pos trivial, if_pos c2])⟩, fun c2 => ⟨by omega, hP _ (fun _ => by rw [if_pos trivial, if_neg c2])⟩⟩, fun c => absurd trivial c⟩
  · exact code_p (by decide) (hP 0 (fun z => absurd z (by decide)))
theorem k_X11_breakOf (l : Launch) (D : va_G) (T : Nat → ClassId) (m0 : Nat) (a : Nat → Nat) (p0 : Int32) (p1 : Int32) (p2 : Int32) (p3 : Int32) (r : Nat → Int32) (q : Nat → Nat → Int32) (h : WF (q 0)) : RMi l yX11_breakOf (ws_X11_breakOf) rm_X11_breakOf D T m0 a [.ref m0, .int p0, .int p1, .int p2, .int p3] r q (fun v u => (u.2 = q ∧ kR r u.1 SC ∧ u.1 6 = brkC (q 0) p0 p1 p2 ∧ (brkC (q 0) p0 p1 p2 = 0 → v = brkA (q 0) (iv p0) (iv p1) p2 p3))) := c_X11_breakOf l D T m0 a p0 p1 p2 p3 r q _ <|
  (by
    unfold wp_X11_breakOf brkC
    refine ⟨fun c => ?_, fun c => ⟨fun c2 => ?_, fun c2 => ?_⟩⟩
    · refine w_breakOf40 (Or.inr rfl) (fun x hx => ⟨rfl, kR.rf.up (by decide) _, ?_⟩)
      rw [if_pos c]
      exact ⟨(by (try dsimp only); exact va_up_self _ _ _), hx⟩
    · refine w_breakOf40 (Or.inr rfl) (fun x hx => ⟨rfl, kR.rf.up (by decide) _, ?_⟩)
      rw [if_neg c, if_pos c2]
      exact ⟨(by (try dsimp only); exact va_up_self _ _ _), hx⟩
    · obtain ⟨v, n, hv, h6, _, ep⟩ := vers_ix h c
      obtain ⟨zn, hz1, hz9, ez⟩ := zin_1 (m := 9) (by decide) c2
      refine ⟨⟨⟨v, by omega, ep⟩, ⟨zn, hz1, hz9, ez⟩⟩, fun c3 => ?_, fun c3 => ?_⟩
      · have ev : iv p0 = v := by rw [ep]; exact nI_clamp (by omega)
        have ezz : iv p1 = zn := by rw [ez]; exact nI_clamp (by omega)
        obtain ⟨nb, hb, eb⟩ := h.brk (v := v) (z := zn) (by omega) hz1 hz9
        have hi : p2 = -1 ∨ ∃ j, j < 5 ∧ p2 = nI j := by
          rw [ev, ezz, eb] at c3
          rcases neg_of (y := 0) (by omega) c3 with a | ⟨j, hj, a⟩
          · exact Or.inl a
          · exact Or.inr ⟨j, by omega, a⟩
        refine w_breakOf40 (Or.inl ⟨rfl, v, zn, by omega, ep, hz1, hz9, ez, hi⟩) (fun x hx => ⟨rfl, kR.rf.up (by decide) _, ?_⟩)
        rw [if_neg c, if_neg c2, if_neg c3]
        exact ⟨(by (try dsimp only); exact va_up_self _ _ _), hx⟩
      · refine w_breakOf40 (Or.inr rfl) (fun x hx => ⟨rfl, kR.rf.up (by decide) _, ?_⟩)
        rw [if_neg c, if_neg c2, if_pos c3]
        exact ⟨(by (try dsimp only); exact va_up_self _ _ _), hx⟩)
abbrev ws_X11_accessorial : List Cond := Cond.code yX11_accessorial cX11_accessorial 4 (some .int) :: W0
abbrev rm_X11_accessorial : Room := ({ frames := 2, cells := 0, slots := 0, locals := 43 } : Room)
def wp_X11_accessorial (P : Int32 → RST → Prop) (p0 : Int32) (p1 : Int32) (p2 : Int32) (r : Nat → Int32) (q : Nat → Nat → Int32) : Prop := (¬ (zin p0 0 (q 0 0 - 1)) = 0 → (((zin p1 0 9) = 0 → (∀ r3 : Nat → Int32, r3 = va_up r 6 2 → (((r3 6) ≤ 0 → (vp_in (((274 + 510 * p0 + 150 + 36 * p1) + 1) + p2) 3334 ∧ (P (q 0 (Int32.toNatClampNeg (((274 + 510 * p0 + 150 + 36 * p1) + 1) + p2))) (r3, q)))) ∧ (¬ (r3 6) ≤ 0 → (P 0 (r3, q)))))) ∧ (¬ (zin p1 0 9) = 0 → (vp_in (274 + 510 * p0 + 150 + 36 * p1) 3334 ∧ ((¬ (q 0 (Int32.toNatClampNeg (274 + 510 * p0 + 150 + 36 * p1))) = 0 → ((¬ (zin p2 0 4) = 0 → (∀ r9 : Nat → Int32, r9 = va_up r 6 0 → (((r9 6) ≤ 0 → (vp_in (((274 + 510 * p0 + 150 + 36 * p1) + 1) + p2) 3334 ∧ (P (q 0 (Int32.toNatClampNeg (((274 + 510 * p0 + 150 + 36 * p1) + 1) + p2))) (r9, q)))) ∧ (¬ (r9 6) ≤ 0 → (P 0 (r9, q)))))) ∧ ((zin p2 0 4) = 0 → (∀ r12 : Nat → Int32, r12 = va_up r 6 3 → (((r12 6) ≤ 0 → (vp_in (((274 + 510 * p0 + 150 + 36 * p1) + 1) + p2) 3334 ∧ (P (q 0 (Int32.toNatClampNeg (((274 + 510 * p0 + 150 + 36 * p1) + 1) + p2))) (r12, q)))) ∧ (¬ (r12 6) ≤ 0 → (P 0 (r12, q)))))))) ∧ ((q 0 (Int32.toNatClampNeg (274 + 510 * p0 + 150 + 36 * p1))) = 0 → (∀ r15 : Nat → Int32, r15 = va_up r 6 2 → (((r15 6) ≤ 0 → (vp_in (((274 + 510 * p0 + 150 + 36 * p1) + 1) + p2) 3334 ∧ (P (q 0 (Int32.toNatClampNeg (((274 + 510 * p0 + 150 + 36 * p1) + 1) + p2))) (r15, q)))) ∧ (¬ (r15 6) ≤ 0 → (P 0 (r15, q))))))))))) ∧ ((zin p0 0 (q 0 0 - 1)) = 0 → (∀ r18 : Nat → Int32, r18 = va_up r 6 1 → (((r18 6) ≤ 0 → (vp_in (((274 + 510 * p0 + 150 + 36 * p1) + 1) + p2) 3334 ∧ (P (q 0 (Int32.toNatClampNeg (((274 + 510 * p0 + 150 + 36 * p1) + 1) + p2))) (r18, q)))) ∧ (¬ (r18 6) ≤ 0 → (P 0 (r18, q))))))
set_option maxRecDepth 100000 in
set_option maxHeartbeats 4000000 in
theorem t_X11_accessorial {p : Program} {l : Launch} {e : Env} {s : State} {m : MethodId} {args : Array Value} {below : List Frame} {meth : Method} {c : Code} {D : va_G} {A : Nat → Prop} {T : Nat → ClassId} {m0 : Nat} {a : Nat → Nat} (C : GC p s m args meth c cX11_accessorial "FreightRaterModel" (ws_X11_accessorial) 4 D A (zty T)) (hr : meth.sig.returnType = (some .int)) (P : Int32 → RST → Prop) : ∀ (p0 : Int32) (p1 : Int32) (p2 : Int32) (r : Nat → Int32) (q : Nat → Nat → Int32), wp_X11_accessorial P p0 p1 p2 r q → GW p l e rm_X11_accessorial s m args below meth c D A 4 0 0 (MQ below (va_Qi P (RE D T m0 a A) A) args s 0 0 A) (RW m0 a T r q) 0 0 0 [(0, .ref m0), (1, .int p0), (2, .int p1), (3, .int p2)] [] := by
  have hw : ∀ {w : Cond}, w ∈ W0 → w.before args s = true := fun h => C.2.2.2.2.1 _ (List.mem_cons_of_mem _ h)
  intro p0 p1 p2 r q h
  unfold wp_X11_accessorial at h
  refine g_aload_n C dX11_accessorial_0 rfl 0 rfl ?_
  refine g_aload_n C dX11_accessorial_1 rfl 0 rfl ?_
  refine g_iload_n C dX11_accessorial_2 rfl 1 rfl ?_
  refine gr_callVf C [.int p0] rfl (k_X11_isVersion l D T m0 a p0 r q) (w0_V 1 C.2.2.2.2.1 kw_1954 kw_1956 ks_51 kw_9 kw_1957 rfl rfl (by decide +kernel) ⟨by decide, by decide⟩) rfl (Nat.le_of_ble_eq_true rfl) (Nat.zero_le _) (Nat.zero_le _) dX11_accessorial_3 ?_
  refine g_if_ne (tgt := 13) C dX11_accessorial_6 (by decide) (fun z1 => ?_) (fun z1 => ?_)
  · replace h := h.1 z1
    refine g_iload_n C dX11_accessorial_13 rfl 2 rfl ?_
    refine g_iconst (v := 0) C dX11_accessorial_14 (by decide) ?_
    refine g_bipush (v := 9) C dX11_accessorial_15 (by decide) ?_
    refine gr_callSf C [.int p1, .int 0, .int 9] rfl (k_X11_in l D T m0 a p1 0 9 r q) (w0_S 3 C.2.2.2.2.1 kw_1944 kw_1945 kw_9 kw_1946 rfl rfl (by decide +kernel) ⟨by decide, by decide⟩) rfl (Nat.le_of_ble_eq_true rfl) (Nat.zero_le _) (Nat.zero_le _) dX11_accessorial_17 ?_
    refine g_if_eq (tgt := 36) C dX11_accessorial_20 (by decide) (fun z2 => ?_) (fun z2 => ?_)
    · replace h := h.1 z2
      refine g_iconst (v := 2) C dX11_accessorial_36 (by decide) ?_
      refine g_goto (tgt := 54) C dX11_accessorial_37 (by decide) ?_
      refine gr_put_6 C iwx_X11 (hw kw_1815) dX11_accessorial_54 ?_
      refine gr_nr (fun r3 er3 => ?_)
      replace h := h r3 er3
      refine g_aload_n C dX11_accessorial_57 rfl 0 rfl ?_
      refine gr_get C iwx_X11 6 (hw kw_1815) (by decide) rfl rfl dX11_accessorial_58 ?_
      refine g_if_le (tgt := 68) C dX11_accessorial_61 (by decide) (fun z4 => ?_) (fun z4 => ?_)
      · replace h := h.1 z4
        refine g_aload_n C dX11_accessorial_68 rfl 0 rfl ?_
        refine gr_get C iwx_X11 0 (hw kw_1809) (by decide) rfl rfl dX11_accessorial_69 ?_
        refine g_iload_n C dX11_accessorial_72 rfl 1 rfl ?_
        refine g_iload_n C dX11_accessorial_73 rfl 2 rfl ?_
        refine gr_callSf C [.int p0, .int p1] rfl (k_X11_extra l D T m0 a p0 p1 r3 q) (w0_S 2 C.2.2.2.2.1 kw_1978 kw_1979 kw_9 kw_1980 rfl rfl (by decide +kernel) ⟨by decide, by decide⟩) rfl (Nat.le_of_ble_eq_true rfl) (Nat.zero_le _) (Nat.zero_le _) dX11_accessorial_74 ?_
        refine g_iconst (v := 1) C dX11_accessorial_77 (by decide) ?_
        refine g_iadd C dX11_accessorial_78 ?_
        refine g_iload_n C dX11_accessorial_79 rfl 3 rfl ?_
        refine g_iadd C dX11_accessorial_80 ?_
        obtain ⟨g5, h⟩ := h
        refine gr_ald_0 C g5 dX11_accessorial_81 ?_
        exact gr_iret C hr dX11_accessorial_82 h
      · replace h := h.2 z4
        refine g_iconst (v := 0) C dX11_accessorial_64 (by decide) ?_
        refine g_goto (tgt := 82) C dX11_accessorial_65 (by decide) ?_
        exact gr_iret C hr dX11_accessorial_82 h
    · replace h := h.2 z2
      refine g_aload_n C dX11_accessorial_23 rfl 0 rfl ?_
      refine gr_get C iwx_X11 0 (hw kw_1809) (by decide) rfl rfl dX11_accessorial_24 ?_
      refine g_iload_n C dX11_accessorial_27 rfl 1 rfl ?_
      refine g_iload_n C dX11_accessorial_28 rfl 2 rfl ?_
      refine gr_callSf C [.int p0, .int p1] rfl (k_X11_extra l D T m0 a p0 p1 r q) (w0_S 2 C.2.2.2.2.1 kw_1978 kw_1979 kw_9 kw_1980 rfl rfl (by decide +kernel) ⟨by decide, by decide⟩) rfl (Nat.le_of_ble_eq_true rfl) (Nat.zero_le _) (Nat.zero_le _) dX11_accessorial_29 ?_
      obtain ⟨g6, h⟩ := h
      refine gr_ald_0 C g6 dX11_accessorial_32 ?_
      refine g_if_ne (tgt := 40) C dX11_accessorial_33 (by decide) (fun z7 => ?_) (fun z7 => ?_)
      · replace h := h.1 z7
        refine g_iload_n C dX11_accessorial_40 rfl 3 rfl ?_
        refine g_iconst (v := 0) C dX11_accessorial_41 (by decide) ?_
        refine g_iconst (v := 4) C dX11_accessorial_42 (by decide) ?_
        refine gr_callSf C [.int p2, .int 0, .int 4] rfl (k_X11_in l D T m0 a p2 0 4 r q) (w0_S 3 C.2.2.2.2.1 kw_1944 kw_1945 kw_9 kw_1946 rfl rfl (by decide +kernel) ⟨by decide, by decide⟩) rfl (Nat.le_of_ble_eq_true rfl) (Nat.zero_le _) (Nat.zero_le _) dX11_accessorial_43 ?_
        refine g_if_ne (tgt := 53) C dX11_accessorial_46 (by decide) (fun z8 => ?_) (fun z8 => ?_)
        · replace h := h.1 z8
          refine g_iconst (v := 0) C dX11_accessorial_53 (by decide) ?_
          refine gr_put_6 C iwx_X11 (hw kw_1815) dX11_accessorial_54 ?_
          refine gr_nr (fun r9 er9 => ?_)
          replace h := h r9 er9
          refine g_aload_n C dX11_accessorial_57 rfl 0 rfl ?_
          refine gr_get C iwx_X11 6 (hw kw_1815) (by decide) rfl rfl dX11_accessorial_58 ?_
          refine g_if_le (tgt := 68) C dX11_accessorial_61 (by decide) (fun z10 => ?_) (fun z10 => ?_)
          · replace h := h.1 z10
            refine g_aload_n C dX11_accessorial_68 rfl 0 rfl ?_
            refine gr_get C iwx_X11 0 (hw kw_1809) (by decide) rfl rfl dX11_accessorial_69 ?_
            refine g_iload_n C dX11_accessorial_72 rfl 1 rfl ?_
            refine g_iload_n C dX11_accessorial_73 rfl 2 rfl ?_
            refine gr_callSf C [.int p0, .int p1] rfl (k_X11_extra l D T m0 a p0 p1 r9 q) (w0_S 2 C.2.2.2.2.1 kw_1978 kw_1979 kw_9 kw_1980 rfl rfl (by decide +kernel) ⟨by decide, by decide⟩) rfl (Nat.le_of_ble_eq_true rfl) (Nat.zero_le _) (Nat.zero_le _) dX11_accessorial_74 ?_
            refine g_iconst (v := 1) C dX11_accessorial_77 (by decide) ?_
            refine g_iadd C dX11_accessorial_78 ?_
            refine g_iload_n C dX11_accessorial_79 rfl 3 rfl ?_
            refine g_iadd C dX11_accessorial_80 ?_
            obtain ⟨g11, h⟩ := h
            refine gr_ald_0 C g11 dX11_accessorial_81 ?_
            exact gr_iret C hr dX11_accessorial_82 h
          · replace h := h.2 z10
            refine g_iconst (v := 0) C dX11_accessorial_64 (by decide) ?_
            refine g_goto (tgt := 82) C dX11_accessorial_65 (by decide) ?_
            exact gr_iret C hr dX11_accessorial_82 h
        · replace h := h.2 z8
          refine g_iconst (v := 3) C dX11_accessorial_49 (by decide) ?_
          refine g_goto (tgt := 54) C dX11_accessorial_50 (by decide) ?_
          refine gr_put_6 C iwx_X11 (hw kw_1815) dX11_accessorial_54 ?_
          refine gr_nr (fun r12 er12 => ?_)
          replace h := h r12 er12
          refine g_aload_n C dX11_accessorial_57 rfl 0 rfl ?_
          refine gr_get C iwx_X11 6 (hw kw_1815) (by decide) rfl rfl dX11_accessorial_58 ?_
          refine g_if_le (tgt := 68) C dX11_accessorial_61 (by decide) (fun z13 => ?_) (fun z13 => ?_)
          · replace h := h.1 z13
            refine g_aload_n C dX11_accessorial_68 rfl 0 rfl ?_
            refine gr_get C iwx_X11 0 (hw kw_1809) (by decide) rfl rfl dX11_accessorial_69 ?_
            refine g_iload_n C dX11_accessorial_72 rfl 1 rfl ?_
            refine g_iload_n C dX11_accessorial_73 rfl 2 rfl ?_
            refine gr_callSf C [.int p0, .int p1] rfl (k_X11_extra l D T m0 a p0 p1 r12 q) (w0_S 2 C.2.2.2.2.1 kw_1978 kw_1979 kw_9 kw_1980 rfl rfl (by decide +kernel) ⟨by decide, by decide⟩) rfl (Nat.le_of_ble_eq_true rfl) (Nat.zero_le _) (Nat.zero_le _) dX11_accessorial_74 ?_
            refine g_iconst (v := 1) C dX11_accessorial_77 (by decide) ?_
            refine g_iadd C dX11_accessorial_78 ?_
            refine g_iload_n C dX11_accessorial_79 rfl 3 rfl ?_
            refine g_iadd C dX11_accessorial_80 ?_
            obtain ⟨g14, h⟩ := h
            refine gr_ald_0 C g14 dX11_accessorial_81 ?_
            exact gr_iret C hr dX11_accessorial_82 h
          · replace h := h.2 z13
            refine g_iconst (v := 0) C dX11_accessorial_64 (by decide) ?_
            refine g_goto (tgt := 82) C dX11_accessorial_65 (by decide) ?_
            exact gr_iret C hr dX11_accessorial_82 h
      · replace h := h.2 z7
        refine g_iconst (v := 2) C dX11_accessorial_36 (by decide) ?_
        refine g_goto (tgt := 54) C dX11_accessorial_37 (by decide) ?_
        refine gr_put_6 C iwx_X11 (hw kw_1815) dX11_accessorial_54 ?_
        refine gr_nr (fun r15 er15 => ?_)
        replace h := h r15 er15
        refine g_aload_n C dX11_accessorial_57 rfl 0 rfl ?_
        refine gr_get C iwx_X11 6 (hw kw_1815) (by decide) rfl rfl dX11_accessorial_58 ?_
        refine g_if_le (tgt := 68) C dX11_accessorial_61 (by decide) (fun z16 => ?_) (fun z16 => ?_)
        · replace h := h.1 z16
          refine g_aload_n C dX11_accessorial_68 rfl 0 rfl ?_
          refine gr_get C iwx_X11 0 (hw kw_1809) (by decide) rfl rfl dX11_accessorial_69 ?_
          refine g_iload_n C dX11_accessorial_72 rfl 1 rfl ?_
          refine g_iload_n C dX11_accessorial_73 rfl 2 rfl ?_
          refine gr_callSf C [.int p0, .int p1] rfl (k_X11_extra l D T m0 a p0 p1 r15 q) (w0_S 2 C.2.2.2.2.1 kw_1978 kw_1979 kw_9 kw_1980 rfl rfl (by decide +kernel) ⟨by decide, by decide⟩) rfl (Nat.le_of_ble_eq_true rfl) (Nat.zero_le _) (Nat.zero_le _) dX11_accessorial_74 ?_
          refine g_iconst (v := 1) C dX11_accessorial_77 (by decide) ?_
          refine g_iadd C dX11_accessorial_78 ?_
          refine g_iload_n C dX11_accessorial_79 rfl 3 rfl ?_
          refine g_iadd C dX11_accessorial_80 ?_
          obtain ⟨g17, h⟩ := h
          refine gr_ald_0 C g17 dX11_accessorial_81 ?_
          exact gr_iret C hr dX11_accessorial_82 h
        · replace h := h.2 z16
          refine g_iconst (v := 0) C dX11_accessorial_64 (by decide) ?_
          refine g_goto (tgt := 82) C dX11_accessorial_65 (by decide) ?_
          exact gr_iret C hr dX11_accessorial_82 h
  · replace h := h.2 z1
    refine g_iconst (v := 1) C dX11_accessorial_9 (by decide) ?_
    refine g_goto (tgt := 54) C dX11_accessorial_10 (by decide) ?_
    refine gr_put_6 C iwx_X11 (hw kw_1815) dX11_accessorial_54 ?_
    refine gr_nr (fun r18 er18 => ?_)
    replace h := h r18 er18
    refine g_aload_n C dX11_accessorial_57 rfl 0 rfl ?_
    refine gr_get C iwx_X11 6 (hw kw_1815) (by decide) rfl rfl dX11_accessorial_58 ?_
    refine g_if_le (tgt := 68) C dX11_accessorial_61 (by decide) (fun z19 => ?_) (fun z19 => ?_)
    · replace h := h.1 z19
      refine g_aload_n C dX11_accessorial_68 rfl 0 rfl ?_
      refine gr_get C iwx_X11 0 (hw kw_1809) (by decide) rfl rfl dX11_accessorial_69 ?_
      refine g_iload_n C dX11_accessorial_72 rfl 1 rfl ?_
      refine g_iload_n C dX11_accessorial_73 rfl 2 rfl ?_
      refine gr_callSf C [.int p0, .int p1] rfl (k_X11_extra l D T m0 a p0 p1 r18 q) (w0_S 2 C.2.2.2.2.1 kw_1978 kw_1979 kw_9 kw_1980 rfl rfl (by decide +kernel) ⟨by decide, by decide⟩) rfl (Nat.le_of_ble_eq_true rfl) (Nat.zero_le _) (Nat.zero_le _) dX11_accessorial_74 ?_
      refine g_iconst (v := 1) C dX11_accessorial_77 (by decide) ?_
      refine g_iadd C dX11_accessorial_78 ?_
      refine g_iload_n C dX11_accessorial_79 rfl 3 rfl ?_
      refine g_iadd C dX11_accessorial_80 ?_
      obtain ⟨g20, h⟩ := h
      refine gr_ald_0 C g20 dX11_accessorial_81 ?_
      exact gr_iret C hr dX11_accessorial_82 h
    · replace h := h.2 z19
      refine g_iconst (v := 0) C dX11_accessorial_64 (by decide) ?_
      refine g_goto (tgt := 82) C dX11_accessorial_65 (by decide) ?_
      exact gr_iret C hr dX11_accessorial_82 h
theorem c_X11_accessorial (l : Launch) (D : va_G) (T : Nat → ClassId) (m0 : Nat) (a : Nat → Nat) (p0 : Int32) (p1 : Int32) (p2 : Int32) (r : Nat → Int32) (q : Nat → Nat → Int32) (P : Int32 → RST → Prop) (h : wp_X11_accessorial P p0 p1 p2 r q) : RMi l yX11_accessorial (ws_X11_accessorial) rm_X11_accessorial D T m0 a [.ref m0, .int p0, .int p1, .int p2] r q P := gr_meti (by decide) rfl rfl (Nat.le_of_ble_eq_true rfl) (fun p e s m args below meth c A C hr => t_X11_accessorial C hr P p0 p1 p2 r q h)
theorem ap_bad {r : Nat → Int32} {q : Nat → Nat → Int32} {C c A : Int32} (e : C = c) (hc : ¬ c = 0) : (q = q ∧ kR r (va_up r 6 c) SC ∧ (va_up r 6 c) 6 = C ∧ (C = 0 → (0 : Int32) = A)) := ⟨rfl, kR.rf.up (by decide) _, by rw [va_up_self, e], fun z => absurd (e.symm.trans z) hc⟩
theorem ap_ok {r r1 : Nat → Int32} {q : Nat → Nat → Int32} {C v A : Int32} (e : C = 0) (h1 : kR r r1 SC) (h6 : r1 6 = 0) (ev : v = A) : (q = q ∧ kR r r1 SC ∧ r1 6 = C ∧ (C = 0 → v = A)) := ⟨rfl, h1, by rw [h6, e], fun _ => ev⟩
theorem k06 {r : Nat → Int32} : kR r (va_up r 6 0) SC := kR.rf.up (by decide) _
theorem k_X11_accessorial (l : Launch) (D : va_G) (T : Nat → ClassId) (m0 : Nat) (a : Nat → Nat) (p0 : Int32) (p1 : Int32) (p2 : Int32) (r : Nat → Int32) (q : Nat → Nat → Int32) (h : WF (q 0)) : RMi l yX11_accessorial (ws_X11_accessorial) rm_X11_accessorial D T m0 a [.ref m0, .int p0, .int p1, .int p2] r q (fun v u => (u.2 = q ∧ kR r u.1 SC ∧ u.1 6 = accC (q 0) p0 p1 p2 ∧ (accC (q 0) p0 p1 p2 = 0 → v = q 0 (274 + 510 * iv p0 + 150 + 36 * iv p1 + 1 + iv p2)))) := c_X11_accessorial l D T m0 a p0 p1 p2 r q _ <|
  (by
    unfold wp_X11_accessorial
    refine ⟨fun c => ⟨fun c2 => code_p (by decide) (ap_bad (c := 2) (by unfold accC; rw [if_neg c, if_pos c2]) (by decide)), fun c2 => ?_⟩, fun c => code_p (by decide) (ap_bad (c := 1) (by unfold accC; rw [if_pos c]) (by decide))⟩
    obtain ⟨v, n, hv, h6, _, ep⟩ := vers_ix h c
    obtain ⟨a, ha, ea⟩ := zin_n (m := 9) (by decide) c2
    have e1 : 274 + 510 * p0 + 150 + 36 * p1 = nI (274 + 510 * v + 150 + 36 * a) := by rw [ep, ea]; simp (disch := omega) only [li_2, li_3, li_4, li_5, li_6, li_7, li_8, li_9, li_10, li_12, li_14, li_20, li_26, li_30, li_31, li_36, li_38, li_47, li_48, li_50, li_57, li_58, li_80, li_98, li_99, li_100, li_102, li_104, li_105, li_108, li_109, li_110, li_114, li_115, li_119, li_122, li_137, li_146, li_147, li_148, li_149, li_150, li_200, li_255, li_256, li_274, li_510, li_512, li_640, li_999, li_1000, li_1024, li_3334, li_5000, li_9999, li_10000, li_23338, li_26672, li_30000, li_99999, li_150000, li_300000, pk_mul, nI_add, pk_sub, nI_clamp, nI_1, nI_p1, nI_a0, nI_0a, nI_m0, nI_m1, cl_0, cl_1, z01, z11]
    have e0 : iv (nI (274 + 510 * v + 150 + 36 * a)) = 274 + 510 * iv p0 + 150 + 36 * iv p1 := by rw [ep, ea]; simp (disch := omega) only [li_2, li_3, li_4, li_5, li_6, li_7, li_8, li_9, li_10, li_12, li_14, li_20, li_26, li_30, li_31, li_36, li_38, li_47, li_48, li_50, li_57, li_58, li_80, li_98, li_99, li_100, li_102, li_104, li_105, li_108, li_109, li_110, li_114, li_115, li_119, li_122, li_137, li_146, li_147, li_148, li_149, li_150, li_200, li_255, li_256, li_274, li_510, li_512, li_640, li_999, li_1000, li_1024, li_3334, li_5000, li_9999, li_10000, li_23338, li_26672, li_30000, li_99999, li_150000, li_300000, pk_mul, nI_add, pk_sub, nI_clamp, nI_1, nI_p1, nI_a0, nI_0a, nI_m0, nI_m1, cl_0, cl_1, z01, z11]
    rw [e1]
    refine ⟨by simp (disch := omega) only [li_2, li_3, li_4, li_5, li_6, li_7, li_8, li_9, li_10, li_12, li_14, li_20, li_26, li_30, li_31, li_36, li_38, li_47, li_48, li_50, li_57, li_58, li_80, li_98, li_99, li_100, li_102, li_104, li_105, li_108, li_109, li_110, li_114, li_115, li_119, li_122, li_137, li_146, li_147, li_148, li_149, li_150, li_200, li_255, li_256, li_274, li_510, li_512, li_640, li_999, li_1000, li_1024, li_3334, li_5000, li_9999, li_10000, li_23338, li_26672, li_30000, li_99999, li_150000, li_300000, pk_mul, nI_add, pk_sub, nI_clamp, nI_1, nI_p1, nI_a0, nI_0a, nI_m0, nI_m1, cl_0, cl_1, z01, z11, nI_leI, nI_ltI, nI_eq, nz_lt0, nz_le, nz_eq0, nz_pos, nz_le0, nz_eq1, nz_lt1, nz_ge1, nz_le1, nz_gt1, nz_vp, nz_vp0, nz_vp1, six_nI, vix_nI, bix_nI, pix_nI, fix_nI, gix_nI, rix_nI, zix_nI, pix_0, pix_1, bix_0, fix_0, fix_1, rix_1, true_and, and_true]; omega, fun c3 => ⟨fun c4 => code_0 ?_, fun c4 => code_p (by decide) (ap_bad (c := 3) (by unfold accC; rw [if_neg c, if_neg c2, if_neg (by rw [← e0]; exact c3), if_pos c4]) (by decide))⟩, fun c3 => code_p (by decide) (ap_bad (c := 2) (by unfold accC; rw [if_neg c, if_neg c2, if_pos (by rw [← e0]; exact c3)]) (by decide))⟩
    obtain ⟨j, hj, ej⟩ := zin_n (m := 4) (by decide) c4
    have e2 : nI (274 + 510 * v + 150 + 36 * a) + 1 + p2 = nI (274 + 510 * v + 150 + 36 * a + 1 + j) := by rw [ej]; simp (disch := omega) only [li_2, li_3, li_4, li_5, li_6, li_7, li_8, li_9, li_10, li_12, li_14, li_20, li_26, li_30, li_31, li_36, li_38, li_47, li_48, li_50, li_57, li_58, li_80, li_98, li_99, li_100, li_102, li_104, li_105, li_108, li_109, li_110, li_114, li_115, li_119, li_122, li_137, li_146, li_147, li_148, li_149, li_150, li_200, li_255, li_256, li_274, li_510, li_512, li_640, li_999, li_1000, li_1024, li_3334, li_5000, li_9999, li_10000, li_23338, li_26672, li_30000, li_99999, li_150000, li_300000, pk_mul, nI_add, pk_sub, nI_clamp, nI_1, nI_p1, nI_a0, nI_0a, nI_m0, nI_m1, cl_0, cl_1, z01, z11]
    rw [e2]
    refine ⟨by simp (disch := omega) only [li_2, li_3, li_4, li_5, li_6, li_7, li_8, li_9, li_10, li_12, li_14, li_20, li_26, li_30, li_31, li_36, li_38, li_47, li_48, li_50, li_57, li_58, li_80, li_98, li_99, li_100, li_102, li_104, li_105, li_108, li_109, li_110, li_114, li_115, li_119, li_122, li_137, li_146, li_147, li_148, li_149, li_150, li_200, li_255, li_256, li_274, li_510, li_512, li_640, li_999, li_1000, li_1024, li_3334, li_5000, li_9999, li_10000, li_23338, li_26672, li_30000, li_99999, li_150000, li_300000, pk_mul, nI_add, pk_sub, nI_clamp, nI_1, nI_p1, nI_a0, nI_0a, nI_m0, nI_m1, cl_0, cl_1, z01, z11, nI_leI, nI_ltI, nI_eq, nz_lt0, nz_le, nz_eq0, nz_pos, nz_le0, nz_eq1, nz_lt1, nz_ge1, nz_le1, nz_gt1, nz_vp, nz_vp0, nz_vp1, six_nI, vix_nI, bix_nI, pix_nI, fix_nI, gix_nI, rix_nI, zix_nI, pix_0, pix_1, bix_0, fix_0, fix_1, rix_1, true_and, and_true]; omega, ap_ok (by unfold accC; rw [if_neg c, if_neg c2, if_neg (by rw [← e0]; exact c3), if_neg c4]) k06 (by (try dsimp only); exact va_up_self _ _ _) ?_⟩
    rw [ep, ea, ej]
    simp (disch := omega) only [li_2, li_3, li_4, li_5, li_6, li_7, li_8, li_9, li_10, li_12, li_14, li_20, li_26, li_30, li_31, li_36, li_38, li_47, li_48, li_50, li_57, li_58, li_80, li_98, li_99, li_100, li_102, li_104, li_105, li_108, li_109, li_110, li_114, li_115, li_119, li_122, li_137, li_146, li_147, li_148, li_149, li_150, li_200, li_255, li_256, li_274, li_510, li_512, li_640, li_999, li_1000, li_1024, li_3334, li_5000, li_9999, li_10000, li_23338, li_26672, li_30000, li_99999, li_150000, li_300000, pk_mul, nI_add, pk_sub, nI_clamp, nI_1, nI_p1, nI_a0, nI_0a, nI_m0, nI_m1, cl_0, cl_1, z01, z11])
abbrev ws_X11_base : List Cond := Cond.code yX11_base cX11_base 4 (some .int) :: W0
abbrev rm_X11_base : Room := ({ frames := 4, cells := 0, slots := 0, locals := 91 } : Room)
def wp_X11_base (P : Int32 → RST → Prop) (p0 : Int32) (p1 : Int32) (p2 : Int32) (r : Nat → Int32) (q : Nat → Nat → Int32) : Prop := ((zin p0 0 (q 0 0 - 1)) = 0 → (∀ r2 : Nat → Int32, r2 = va_up r 6 1 → (((r2 6) ≤ 0 → ((WF (q 0) ∧ vix p0 ∧ zix p1) ∧ (∀ (v4 : Int32) (r5 : Nat → Int32) (q6 : Nat → Nat → Int32), (v4 = baseF (q 0) (iv p0) (iv p1) p2 ∧ r5 = va_up r2 7 (nI (chpF (q 0) (iv p0) (iv p1) p2)) ∧ q6 = q) → (P v4 (r5, q6))))) ∧ (¬ (r2 6) ≤ 0 → (P 0 (r2, q)))))) ∧ (¬ (zin p0 0 (q 0 0 - 1)) = 0 → ((¬ (zin p1 1 9) = 0 → ((¬ (zin p2 0 99999) = 0 → ((vix p0 ∧ zix p1) ∧ ((¬ (q 0 (274 + 510 * iv p0 + 38 + iv p1 - 1)) = 0 → (∀ r12 : Nat → Int32, r12 = va_up r 6 0 → (((r12 6) ≤ 0 → ((WF (q 0) ∧ vix p0 ∧ zix p1) ∧ (∀ (v14 : Int32) (r15 : Nat → Int32) (q16 : Nat → Nat → Int32), (v14 = baseF (q 0) (iv p0) (iv p1) p2 ∧ r15 = va_up r12 7 (nI (chpF (q 0) (iv p0) (iv p1) p2)) ∧ q16 = q) → (P v14 (r15, q16))))) ∧ (¬ (r12 6) ≤ 0 → (P 0 (r12, q)))))) ∧ ((q 0 (274 + 510 * iv p0 + 38 + iv p1 - 1)) = 0 → (∀ r18 : Nat → Int32, r18 = va_up r 6 3 → (((r18 6) ≤ 0 → ((WF (q 0) ∧ vix p0 ∧ zix p1) ∧ (∀ (v20 : Int32) (r21 : Nat → Int32) (q22 : Nat → Nat → Int32), (v20 = baseF (q 0) (iv p0) (iv p1) p2 ∧ r21 = va_up r18 7 (nI (chpF (q 0) (iv p0) (iv p1) p2)) ∧ q22 = q) → (P v20 (r21, q22))))) ∧ (¬ (r18 6) ≤ 0 → (P 0 (r18, q))))))))) ∧ ((zin p2 0 99999) = 0 → (∀ r24 : Nat → Int32, r24 = va_up r 6 2 → (((r24 6) ≤ 0 → ((WF (q 0) ∧ vix p0 ∧ zix p1) ∧ (∀ (v26 : Int32) (r27 : Nat → Int32) (q28 : Nat → Nat → Int32), (v26 = baseF (q 0) (iv p0) (iv p1) p2 ∧ r27 = va_up r24 7 (nI (chpF (q 0) (iv p0) (iv p1) p2)) ∧ q28 = q) → (P v26 (r27, q28))))) ∧ (¬ (r24 6) ≤ 0 → (P 0 (r24, q)))))))) ∧ ((zin p1 1 9) = 0 → (∀ r30 : Nat → Int32, r30 = va_up r 6 1 → (((r30 6) ≤ 0 → ((WF (q 0) ∧ vix p0 ∧ zix p1) ∧ (∀ (v32 : Int32) (r33 : Nat → Int32) (q34 : Nat → Nat → Int32), (v32 = baseF (q 0) (iv p0) (iv p1) p2 ∧ r33 = va_up r30 7 (nI (chpF (q 0) (iv p0) (iv p1) p2)) ∧ q34 = q) → (P v32 (r33, q34))))) ∧ (¬ (r30 6) ≤ 0 → (P 0 (r30, q))))))))
set_option maxRecDepth 100000 in
set_option maxHeartbeats 4000000 in
theorem t_X11_base {p : Program} {l : Launch} {e : Env} {s : State} {m : MethodId} {args : Array Value} {below : List Frame} {meth : Method} {c : Code} {D : va_G} {A : Nat → Prop} {T : Nat → ClassId} {m0 : Nat} {a : Nat → Nat} (C : GC p s m args meth c cX11_base "FreightRaterModel" (ws_X11_base) 4 D A (zty T)) (hr : meth.sig.returnType = (some .int)) (P : Int32 → RST → Prop) : ∀ (p0 : Int32) (p1 : Int32) (p2 : Int32) (r : Nat → Int32) (q : Nat → Nat → Int32), wp_X11_base P p0 p1 p2 r q → GW p l e rm_X11_base s m args below meth c D A 4 0 0 (MQ below (va_Qi P (RE D T m0 a A) A) args s 0 0 A) (RW m0 a T r q) 0 0 0 [(0, .ref m0), (1, .int p0), (2, .int p1), (3, .int p2)] [] := by
  have hw : ∀ {w : Cond}, w ∈ W0 → w.before args s = true := fun h => C.2.2.2.2.1 _ (List.mem_cons_of_mem _ h)
  intro p0 p1 p2 r q h
  unfold wp_X11_base at h
  refine g_aload_n C dX11_base_0 rfl 0 rfl ?_
  refine g_aload_n C dX11_base_1 rfl 0 rfl ?_
  refine g_iload_n C dX11_base_2 rfl 1 rfl ?_
  refine gr_callVf C [.int p0] rfl (k_X11_isVersion l D T m0 a p0 r q) (w0_V 1 C.2.2.2.2.1 kw_1954 kw_1956 ks_51 kw_9 kw_1957 rfl rfl (by decide +kernel) ⟨by decide, by decide⟩) rfl (Nat.le_of_ble_eq_true rfl) (Nat.zero_le _) (Nat.zero_le _) dX11_base_3 ?_
  refine g_if_eq (tgt := 19) C dX11_base_6 (by decide) (fun z1 => ?_) (fun z1 => ?_)
  · replace h := h.1 z1
    refine g_iconst (v := 1) C dX11_base_19 (by decide) ?_
    refine g_goto (tgt := 51) C dX11_base_20 (by decide) ?_
    refine gr_put_6 C iwx_X11 (hw kw_1815) dX11_base_51 ?_
    refine gr_nr (fun r2 er2 => ?_)
    replace h := h r2 er2
    refine g_aload_n C dX11_base_54 rfl 0 rfl ?_
    refine gr_get C iwx_X11 6 (hw kw_1815) (by decide) rfl rfl dX11_base_55 ?_
    refine g_if_le (tgt := 65) C dX11_base_58 (by decide) (fun z3 => ?_) (fun z3 => ?_)
    · replace h := h.1 z3
      refine g_aload_n C dX11_base_65 rfl 0 rfl ?_
      refine g_iload_n C dX11_base_66 rfl 1 rfl ?_
      refine g_iload_n C dX11_base_67 rfl 2 rfl ?_
      refine g_iload_n C dX11_base_68 rfl 3 rfl ?_
      obtain ⟨g7, h⟩ := h
      refine gr_calliV C [.int p0, .int p1, .int p2] rfl (k_X11_baseOf l D T m0 a p0 p1 p2 r2 q g7) (w0_V 3 C.2.2.2.2.1 kw_2017 kw_2019 ks_59 kw_9 kw_2020 rfl rfl (by decide +kernel) ⟨by decide, by decide⟩) rfl (Nat.le_of_ble_eq_true rfl) (Nat.zero_le _) (Nat.zero_le _) dX11_base_69 (fun v4 r5 q6 hp => ?_)
      replace h := h v4 r5 q6 hp
      exact gr_iret C hr dX11_base_72 h
    · replace h := h.2 z3
      refine g_iconst (v := 0) C dX11_base_61 (by decide) ?_
      refine g_goto (tgt := 72) C dX11_base_62 (by decide) ?_
      exact gr_iret C hr dX11_base_72 h
  · replace h := h.2 z1
    refine g_iload_n C dX11_base_9 rfl 2 rfl ?_
    refine g_iconst (v := 1) C dX11_base_10 (by decide) ?_
    refine g_bipush (v := 9) C dX11_base_11 (by decide) ?_
    refine gr_callSf C [.int p1, .int 1, .int 9] rfl (k_X11_in l D T m0 a p1 1 9 r q) (w0_S 3 C.2.2.2.2.1 kw_1944 kw_1945 kw_9 kw_1946 rfl rfl (by decide +kernel) ⟨by decide, by decide⟩) rfl (Nat.le_of_ble_eq_true rfl) (Nat.zero_le _) (Nat.zero_le _) dX11_base_13 ?_
    refine g_if_ne (tgt := 23) C dX11_base_16 (by decide) (fun z8 => ?_) (fun z8 => ?_)
    · replace h := h.1 z8
      refine g_iload_n C dX11_base_23 rfl 3 rfl ?_
      refine g_iconst (v := 0) C dX11_base_24 (by decide) ?_
      refine g_ldc (v := 99999) C dX11_base_25 (hw kw_2016) ?_
      refine gr_callSf C [.int p2, .int 0, .int 99999] rfl (k_X11_in l D T m0 a p2 0 99999 r q) (w0_S 3 C.2.2.2.2.1 kw_1944 kw_1945 kw_9 kw_1946 rfl rfl (by decide +kernel) ⟨by decide, by decide⟩) rfl (Nat.le_of_ble_eq_true rfl) (Nat.zero_le _) (Nat.zero_le _) dX11_base_27 ?_
      refine g_if_ne (tgt := 37) C dX11_base_30 (by decide) (fun z9 => ?_) (fun z9 => ?_)
      · replace h := h.1 z9
        refine g_aload_n C dX11_base_37 rfl 0 rfl ?_
        refine g_iload_n C dX11_base_38 rfl 1 rfl ?_
        refine g_iload_n C dX11_base_39 rfl 2 rfl ?_
        obtain ⟨g10, h⟩ := h
        refine gr_callVf C [.int p0, .int p1] rfl (k_X11_breaks l D T m0 a p0 p1 r q g10) (w0_V 2 C.2.2.2.2.1 kw_1997 kw_1999 ks_57 kw_9 kw_2000 rfl rfl (by decide +kernel) ⟨by decide, by decide⟩) rfl (Nat.le_of_ble_eq_true rfl) (Nat.zero_le _) (Nat.zero_le _) dX11_base_40 ?_
        refine g_if_ne (tgt := 50) C dX11_base_43 (by decide) (fun z11 => ?_) (fun z11 => ?_)
        · replace h := h.1 z11
          refine g_iconst (v := 0) C dX11_base_50 (by decide) ?_
          refine gr_put_6 C iwx_X11 (hw kw_1815) dX11_base_51 ?_
          refine gr_nr (fun r12 er12 => ?_)
          replace h := h r12 er12
          refine g_aload_n C dX11_base_54 rfl 0 rfl ?_
          refine gr_get C iwx_X11 6 (hw kw_1815) (by decide) rfl rfl dX11_base_55 ?_
          refine g_if_le (tgt := 65) C dX11_base_58 (by decide) (fun z13 => ?_) (fun z13 => ?_)
          · replace h := h.1 z13
            refine g_aload_n C dX11_base_65 rfl 0 rfl ?_
            refine g_iload_n C dX11_base_66 rfl 1 rfl ?_
            refine g_iload_n C dX11_base_67 rfl 2 rfl ?_
            refine g_iload_n C dX11_base_68 rfl 3 rfl ?_
            obtain ⟨g17, h⟩ := h
            refine gr_calliV C [.int p0, .int p1, .int p2] rfl (k_X11_baseOf l D T m0 a p0 p1 p2 r12 q g17) (w0_V 3 C.2.2.2.2.1 kw_2017 kw_2019 ks_59 kw_9 kw_2020 rfl rfl (by decide +kernel) ⟨by decide, by decide⟩) rfl (Nat.le_of_ble_eq_true rfl) (Nat.zero_le _) (Nat.zero_le _) dX11_base_69 (fun v14 r15 q16 hp => ?_)
            replace h := h v14 r15 q16 hp
            exact gr_iret C hr dX11_base_72 h
          · replace h := h.2 z13
            refine g_iconst (v := 0) C dX11_base_61 (by decide) ?_
            refine g_goto (tgt := 72) C dX11_base_62 (by decide) ?_
            exact gr_iret C hr dX11_base_72 h
        · replace h := h.2 z11
          refine g_iconst (v := 3) C dX11_base_46 (by decide) ?_
          refine g_goto (tgt := 51) C dX11_base_47 (by decide) ?_
          refine gr_put_6 C iwx_X11 (hw kw_1815) dX11_base_51 ?_
          refine gr_nr (fun r18 er18 => ?_)
          replace h := h r18 er18
          refine g_aload_n C dX11_base_54 rfl 0 rfl ?_
          refine gr_get C iwx_X11 6 (hw kw_1815) (by decide) rfl rfl dX11_base_55 ?_
          refine g_if_le (tgt := 65) C dX11_base_58 (by decide) (fun z19 => ?_) (fun z19 => ?_)
          · replace h := h.1 z19
            refine g_aload_n C dX11_base_65 rfl 0 rfl ?_
            refine g_iload_n C dX11_base_66 rfl 1 rfl ?_
            refine g_iload_n C dX11_base_67 rfl 2 rfl ?_
            refine g_iload_n C dX11_base_68 rfl 3 rfl ?_
            obtain ⟨g23, h⟩ := h
            refine gr_calliV C [.int p0, .int p1, .int p2] rfl (k_X11_baseOf l D T m0 a p0 p1 p2 r18 q g23) (w0_V 3 C.2.2.2.2.1 kw_2017 kw_2019 ks_59 kw_9 kw_2020 rfl rfl (by decide +kernel) ⟨by decide, by decide⟩) rfl (Nat.le_of_ble_eq_true rfl) (Nat.zero_le _) (Nat.zero_le _) dX11_base_69 (fun v20 r21 q22 hp => ?_)
            replace h := h v20 r21 q22 hp
            exact gr_iret C hr dX11_base_72 h
          · replace h := h.2 z19
            refine g_iconst (v := 0) C dX11_base_61 (by decide) ?_
            refine g_goto (tgt := 72) C dX11_base_62 (by decide) ?_
            exact gr_iret C hr dX11_base_72 h
      · replace h := h.2 z9
        refine g_iconst (v := 2) C dX11_base_33 (by decide) ?_
        refine g_goto (tgt := 51) C dX11_base_34 (by decide) ?_
        refine gr_put_6 C iwx_X11 (hw kw_1815) dX11_base_51 ?_
        refine gr_nr (fun r24 er24 => ?_)
        replace h := h r24 er24
        refine g_aload_n C dX11_base_54 rfl 0 rfl ?_
        refine gr_get C iwx_X11 6 (hw kw_1815) (by decide) rfl rfl dX11_base_55 ?_
        refine g_if_le (tgt := 65) C dX11_base_58 (by decide) (fun z25 => ?_) (fun z25 => ?_)
        · replace h := h.1 z25
          refine g_aload_n C dX11_base_65 rfl 0 rfl ?_
          refine g_iload_n C dX11_base_66 rfl 1 rfl ?_
          refine g_iload_n C dX11_base_67 rfl 2 rfl ?_
          refine g_iload_n C dX11_base_68 rfl 3 rfl ?_
          obtain ⟨g29, h⟩ := h
          refine gr_calliV C [.int p0, .int p1, .int p2] rfl (k_X11_baseOf l D T m0 a p0 p1 p2 r24 q g29) (w0_V 3 C.2.2.2.2.1 kw_2017 kw_2019 ks_59 kw_9 kw_2020 rfl rfl (by decide +kernel) ⟨by decide, by decide⟩) rfl (Nat.le_of_ble_eq_true rfl) (Nat.zero_le _) (Nat.zero_le _) dX11_base_69 (fun v26 r27 q28 hp => ?_)
          replace h := h v26 r27 q28 hp
          exact gr_iret C hr dX11_base_72 h
        · replace h := h.2 z25
          refine g_iconst (v := 0) C dX11_base_61 (by decide) ?_
          refine g_goto (tgt := 72) C dX11_base_62 (by decide) ?_
          exact gr_iret C hr dX11_base_72 h
    · replace h := h.2 z8
      refine g_iconst (v := 1) C dX11_base_19 (by decide) ?_
      refine g_goto (tgt := 51) C dX11_base_20 (by decide) ?_
      refine gr_put_6 C iwx_X11 (hw kw_1815) dX11_base_51 ?_
      refine gr_nr (fun r30 er30 => ?_)
      replace h := h r30 er30
      refine g_aload_n C dX11_base_54 rfl 0 rfl ?_
      refine gr_get C iwx_X11 6 (hw kw_1815) (by decide) rfl rfl dX11_base_55 ?_
      refine g_if_le (tgt := 65) C dX11_base_58 (by decide) (fun z31 => ?_) (fun z31 => ?_)
      · replace h := h.1 z31
        refine g_aload_n C dX11_base_65 rfl 0 rfl ?_
        refine g_iload_n C dX11_base_66 rfl 1 rfl ?_
        refine g_iload_n C dX11_base_67 rfl 2 rfl ?_
        refine g_iload_n C dX11_base_68 rfl 3 rfl ?_
        obtain ⟨g35, h⟩ := h
        refine gr_calliV C [.int p0, .int p1, .int p2] rfl (k_X11_baseOf l D T m0 a p0 p1 p2 r30 q g35) (w0_V 3 C.2.2.2.2.1 kw_2017 kw_2019 ks_59 kw_9 kw_2020 rfl rfl (by decide +kernel) ⟨by decide, by decide⟩) rfl (Nat.le_of_ble_eq_true rfl) (Nat.zero_le _) (Nat.zero_le _) dX11_base_69 (fun v32 r33 q34 hp => ?_)
        replace h := h v32 r33 q34 hp
        exact gr_iret C hr dX11_base_72 h
      · replace h := h.2 z31
        refine g_iconst (v := 0) C dX11_base_61 (by decide) ?_
        refine g_goto (tgt := 72) C dX11_base_62 (by decide) ?_
        exact gr_iret C hr dX11_base_72 h
theorem c_X11_base (l : Launch) (D : va_G) (T : Nat → ClassId) (m0 : Nat) (a : Nat → Nat) (p0 : Int32) (p1 : Int32) (p2 : Int32) (r : Nat → Int32) (q : Nat → Nat → Int32) (P : Int32 → RST → Prop) (h : wp_X11_base P p0 p1 p2 r q) : RMi l yX11_base (ws_X11_base) rm_X11_base D T m0 a [.ref m0, .int p0, .int p1, .int p2] r q P := gr_meti (by decide) rfl rfl (Nat.le_of_ble_eq_true rfl) (fun p e s m args below meth c A C hr => t_X11_base C hr P p0 p1 p2 r q h)
theorem k_X11_base (l : Launch) (D : va_G) (T : Nat → ClassId) (m0 : Nat) (a : Nat → Nat) (p0 : Int32) (p1 : Int32) (p2 : Int32) (r : Nat → Int32) (q : Nat → Nat → Int32) (h : WF (q 0)) : RMi l yX11_base (ws_X11_base) rm_X11_base D T m0 a [.ref m0, .int p0, .int p1, .int p2] r q (fun v u => (u.2 = q ∧ kR r u.1 SC ∧ u.1 6 = basC (q 0) p0 p1 p2 ∧ (basC (q 0) p0 p1 p2 = 0 → v = baseF (q 0) (iv p0) (iv p1) p2))) := c_X11_base l D T m0 a p0 p1 p2 r q _ <|
  (by
    unfold wp_X11_base
    refine ⟨fun c => code_p (by decide) (ap_bad (c := 1) (by unfold basC; rw [if_pos c]) (by decide)), fun c => ⟨fun c2 => ⟨fun c3 => ?_, fun c3 => code_p (by decide) (ap_bad (c := 2) (by unfold basC; rw [if_neg c, if_neg c2, if_pos c3]) (by decide))⟩, fun c2 => code_p (by decide) (ap_bad (c := 1) (by unfold basC; rw [if_neg c, if_pos c2]) (by decide))⟩⟩
    obtain ⟨v, n, hv, h6, _, ep⟩ := vers_ix h c
    obtain ⟨zn, hz1, hz9, ez⟩ := zin_1 (m := 9) (by decide) c2
    refine ⟨⟨⟨v, by omega, ep⟩, ⟨zn, hz1, hz9, ez⟩⟩, fun c4 => code_0 ?_, fun c4 => code_p (by decide) (ap_bad (c := 3) (by unfold basC; rw [if_neg c, if_neg c2, if_neg c3, if_pos c4]) (by decide))⟩
    refine ⟨⟨h, ⟨v, by omega, ep⟩, ⟨zn, hz1, hz9, ez⟩⟩, fun v14 r15 q16 hh => ?_⟩
    obtain ⟨a1, a2, a3⟩ := hh
    subst a3
    exact ap_ok (by unfold basC; rw [if_neg c, if_neg c2, if_neg c3, if_neg c4]) (by rw [a2]; exact k06.up (by decide) _) (by dsimp only; rw [a2, va_up_ne _ _ (by decide), va_up_self]) a1)
abbrev ws_X11_versionOn : List Cond := Cond.code yX11_versionOn cX11_versionOn 2 (some .int) :: W0
abbrev rm_X11_versionOn : Room := ({ frames := 2, cells := 0, slots := 0, locals := 44 } : Room)
def wp_X11_versionOn (P : Int32 → RST → Prop) (p0 : Int32) (r : Nat → Int32) (q : Nat → Nat → Int32) : Prop := (¬ (zin p0 0 999) = 0 → ((WF (q 0)) ∧ ((0 ≤ (vOf (q 0) p0) → (∀ r4 : Nat → Int32, r4 = va_up r 6 0 → (((r4 6) ≤ 0 → ((WF (q 0)) ∧ (P (vOf (q 0) p0) (r4, q)))) ∧ (¬ (r4 6) ≤ 0 → (P 0 (r4, q)))))) ∧ (¬ 0 ≤ (vOf (q 0) p0) → (∀ r7 : Nat → Int32, r7 = va_up r 6 2 → (((r7 6) ≤ 0 → ((WF (q 0)) ∧ (P (vOf (q 0) p0) (r7, q)))) ∧ (¬ (r7 6) ≤ 0 → (P 0 (r7, q))))))))) ∧ ((zin p0 0 999) = 0 → (∀ r10 : Nat → Int32, r10 = va_up r 6 1 → (((r10 6) ≤ 0 → ((WF (q 0)) ∧ (P (vOf (q 0) p0) (r10, q)))) ∧ (¬ (r10 6) ≤ 0 → (P 0 (r10, q))))))
set_option maxRecDepth 100000 in
set_option maxHeartbeats 4000000 in
theorem t_X11_versionOn {p : Program} {l : Launch} {e : Env} {s : State} {m : MethodId} {args : Array Value} {below : List Frame} {meth : Method} {c : Code} {D : va_G} {A : Nat → Prop} {T : Nat → ClassId} {m0 : Nat} {a : Nat → Nat} (C : GC p s m args meth c cX11_versionOn "FreightRaterModel" (ws_X11_versionOn) 2 D A (zty T)) (hr : meth.sig.returnType = (some .int)) (P : Int32 → RST → Prop) : ∀ (p0 : Int32) (r : Nat → Int32) (q : Nat → Nat → Int32), wp_X11_versionOn P p0 r q → GW p l e rm_X11_versionOn s m args below meth c D A 2 0 0 (MQ below (va_Qi P (RE D T m0 a A) A) args s 0 0 A) (RW m0 a T r q) 0 0 0 [(0, .ref m0), (1, .int p0)] [] := by
  have hw : ∀ {w : Cond}, w ∈ W0 → w.before args s = true := fun h => C.2.2.2.2.1 _ (List.mem_cons_of_mem _ h)
  intro p0 r q h
  unfold wp_X11_versionOn at h
  refine g_aload_n C dX11_versionOn_0 rfl 0 rfl ?_
  refine g_iload_n C dX11_versionOn_1 rfl 1 rfl ?_
  refine g_iconst (v := 0) C dX11_versionOn_2 (by decide) ?_
  refine g_sipush (v := 999) C dX11_versionOn_3 (by decide) ?_
  refine gr_callSf C [.int p0, .int 0, .int 999] rfl (k_X11_in l D T m0 a p0 0 999 r q) (w0_S 3 C.2.2.2.2.1 kw_1944 kw_1945 kw_9 kw_1946 rfl rfl (by decide +kernel) ⟨by decide, by decide⟩) rfl (Nat.le_of_ble_eq_true rfl) (Nat.zero_le _) (Nat.zero_le _) dX11_versionOn_6 ?_
  refine g_if_ne (tgt := 16) C dX11_versionOn_9 (by decide) (fun z1 => ?_) (fun z1 => ?_)
  · replace h := h.1 z1
    refine g_aload_n C dX11_versionOn_16 rfl 0 rfl ?_
    refine g_iload_n C dX11_versionOn_17 rfl 1 rfl ?_
    obtain ⟨g2, h⟩ := h
    refine gr_callVf C [.int p0] rfl (k_X11_versionOf l D T m0 a p0 r q g2) (w0_V 1 C.2.2.2.2.1 kw_1966 kw_1968 ks_53 kw_9 kw_1969 rfl rfl (by decide +kernel) ⟨by decide, by decide⟩) rfl (Nat.le_of_ble_eq_true rfl) (Nat.zero_le _) (Nat.zero_le _) dX11_versionOn_18 ?_
    refine g_if_ge (tgt := 28) C dX11_versionOn_21 (by decide) (fun z3 => ?_) (fun z3 => ?_)
    · replace h := h.1 z3
      refine g_iconst (v := 0) C dX11_versionOn_28 (by decide) ?_
      refine gr_put_6 C iwx_X11 (hw kw_1815) dX11_versionOn_29 ?_
      refine gr_nr (fun r4 er4 => ?_)
      replace h := h r4 er4
      refine g_aload_n C dX11_versionOn_32 rfl 0 rfl ?_
      refine gr_get C iwx_X11 6 (hw kw_1815) (by decide) rfl rfl dX11_versionOn_33 ?_
      refine g_if_le (tgt := 43) C dX11_versionOn_36 (by decide) (fun z5 => ?_) (fun z5 => ?_)
      · replace h := h.1 z5
        refine g_aload_n C dX11_versionOn_43 rfl 0 rfl ?_
        refine g_iload_n C dX11_versionOn_44 rfl 1 rfl ?_
        obtain ⟨g6, h⟩ := h
        refine gr_callVf C [.int p0] rfl (k_X11_versionOf l D T m0 a p0 r4 q g6) (w0_V 1 C.2.2.2.2.1 kw_1966 kw_1968 ks_53 kw_9 kw_1969 rfl rfl (by decide +kernel) ⟨by decide, by decide⟩) rfl (Nat.le_of_ble_eq_true rfl) (Nat.zero_le _) (Nat.zero_le _) dX11_versionOn_45 ?_
        exact gr_iret C hr dX11_versionOn_48 h
      · replace h := h.2 z5
        refine g_iconst (v := 0) C dX11_versionOn_39 (by decide) ?_
        refine g_goto (tgt := 48) C dX11_versionOn_40 (by decide) ?_
        exact gr_iret C hr dX11_versionOn_48 h
    · replace h := h.2 z3
      refine g_iconst (v := 2) C dX11_versionOn_24 (by decide) ?_
      refine g_goto (tgt := 29) C dX11_versionOn_25 (by decide) ?_
      refine gr_put_6 C iwx_X11 (hw kw_1815) dX11_versionOn_29 ?_
      refine gr_nr (fun r7 er7 => ?_)
      replace h := h r7 er7
      refine g_aload_n C dX11_versionOn_32 rfl 0 rfl ?_
      refine gr_get C iwx_X11 6 (hw kw_1815) (by decide) rfl rfl dX11_versionOn_33 ?_
      refine g_if_le (tgt := 43) C dX11_versionOn_36 (by decide) (fun z8 => ?_) (fun z8 => ?_)
      · replace h := h.1 z8
        refine g_aload_n C dX11_versionOn_43 rfl 0 rfl ?_
        refine g_iload_n C dX11_versionOn_44 rfl 1 rfl ?_
        obtain ⟨g9, h⟩ := h
        refine gr_callVf C [.int p0] rfl (k_X11_versionOf l D T m0 a p0 r7 q g9) (w0_V 1 C.2.2.2.2.1 kw_1966 kw_1968 ks_53 kw_9 kw_1969 rfl rfl (by decide +kernel) ⟨by decide, by decide⟩) rfl (Nat.le_of_ble_eq_true rfl) (Nat.zero_le _) (Nat.zero_le _) dX11_versionOn_45 ?_
        exact gr_iret C hr dX11_versionOn_48 h
      · replace h := h.2 z8
        refine g_iconst (v := 0) C dX11_versionOn_39 (by decide) ?_
        refine g_goto (tgt := 48) C dX11_versionOn_40 (by decide) ?_
        exact gr_iret C hr dX11_versionOn_48 h
  · replace h := h.2 z1
    refine g_iconst (v := 1) C dX11_versionOn_12 (by decide) ?_
    refine g_goto (tgt := 29) C dX11_versionOn_13 (by decide) ?_
    refine gr_put_6 C iwx_X11 (hw kw_1815) dX11_versionOn_29 ?_
    refine gr_nr (fun r10 er10 => ?_)
    replace h := h r10 er10
    refine g_aload_n C dX11_versionOn_32 rfl 0 rfl ?_
    refine gr_get C iwx_X11 6 (hw kw_1815) (by decide) rfl rfl dX11_versionOn_33 ?_
    refine g_if_le (tgt := 43) C dX11_versionOn_36 (by decide) (fun z11 => ?_) (fun z11 => ?_)
    · replace h := h.1 z11
      refine g_aload_n C dX11_versionOn_43 rfl 0 rfl ?_
      refine g_iload_n C dX11_versionOn_44 rfl 1 rfl ?_
      obtain ⟨g12, h⟩ := h
      refine gr_callVf C [.int p0] rfl (k_X11_versionOf l D T m0 a p0 r10 q g12) (w0_V 1 C.2.2.2.2.1 kw_1966 kw_1968 ks_53 kw_9 kw_1969 rfl rfl (by decide +kernel) ⟨by decide, by decide⟩) rfl (Nat.le_of_ble_eq_true rfl) (Nat.zero_le _) (Nat.zero_le _) dX11_versionOn_45 ?_
      exact gr_iret C hr dX11_versionOn_48 h
    · replace h := h.2 z11
      refine g_iconst (v := 0) C dX11_versionOn_39 (by decide) ?_
      refine g_goto (tgt := 48) C dX11_versionOn_40 (by decide) ?_
      exact gr_iret C hr dX11_versionOn_48 h
theorem c_X11_versionOn (l : Launch) (D : va_G) (T : Nat → ClassId) (m0 : Nat) (a : Nat → Nat) (p0 : Int32) (r : Nat → Int32) (q : Nat → Nat → Int32) (P : Int32 → RST → Prop) (h : wp_X11_versionOn P p0 r q) : RMi l yX11_versionOn (ws_X11_versionOn) rm_X11_versionOn D T m0 a [.ref m0, .int p0] r q P := gr_meti (by decide) rfl rfl (Nat.le_of_ble_eq_true rfl) (fun p e s m args below meth c A C hr => t_X11_versionOn C hr P p0 r q h)
theorem k_X11_versionOn (l : Launch) (D : va_G) (T : Nat → ClassId) (m0 : Nat) (a : Nat → Nat) (p0 : Int32) (r : Nat → Int32) (q : Nat → Nat → Int32) (h : WF (q 0)) : RMi l yX11_versionOn (ws_X11_versionOn) rm_X11_versionOn D T m0 a [.ref m0, .int p0] r q (fun v u => (u.2 = q ∧ kR r u.1 SC ∧ u.1 6 = vonC (q 0) p0 ∧ (vonC (q 0) p0 = 0 → v = vOf (q 0) p0))) := c_X11_versionOn l D T m0 a p0 r q _ <|
  (by
    unfold wp_X11_versionOn
    refine ⟨fun c => ⟨h, fun c2 => code_0 ⟨h, ap_ok (by unfold vonC; rw [if_neg c, if_neg (Int32.not_lt.mpr c2)]) k06 (by (try dsimp only); exact va_up_self _ _ _) rfl⟩, fun c2 => code_p (by decide) (ap_bad (c := 2) (by unfold vonC; rw [if_neg c, if_pos (Int32.not_le.mp c2)]) (by decide))⟩, fun c => code_p (by decide) (ap_bad (c := 1) (by unfold vonC; rw [if_pos c]) (by decide))⟩)
abbrev ws_X11_zoneOf : List Cond := Cond.code yX11_zoneOf cX11_zoneOf 3 (some .int) :: W0
abbrev rm_X11_zoneOf : Room := ({ frames := 2, cells := 0, slots := 0, locals := 47 } : Room)
def wp_X11_zoneOf (P : Int32 → RST → Prop) (p0 : Int32) (p1 : Int32) (r : Nat → Int32) (q : Nat → Nat → Int32) : Prop := ((zin p0 0 (q 0 0 - 1)) = 0 → (∀ r2 : Nat → Int32, r2 = va_up r 6 1 → (((r2 6) ≤ 0 → ((WF (q 0) ∧ vix p0) ∧ (P (zIn (q 0) (iv p0) p1) (r2, q)))) ∧ (¬ (r2 6) ≤ 0 → (P 0 (r2, q)))))) ∧ (¬ (zin p0 0 (q 0 0 - 1)) = 0 → ((¬ (zin p1 0 999) = 0 → ((WF (q 0) ∧ vix p0) ∧ ((¬ (zIn (q 0) (iv p0) p1) = 0 → (∀ r8 : Nat → Int32, r8 = va_up r 6 0 → (((r8 6) ≤ 0 → ((WF (q 0) ∧ vix p0) ∧ (P (zIn (q 0) (iv p0) p1) (r8, q)))) ∧ (¬ (r8 6) ≤ 0 → (P 0 (r8, q)))))) ∧ ((zIn (q 0) (iv p0) p1) = 0 → (∀ r11 : Nat → Int32, r11 = va_up r 6 2 → (((r11 6) ≤ 0 → ((WF (q 0) ∧ vix p0) ∧ (P (zIn (q 0) (iv p0) p1) (r11, q)))) ∧ (¬ (r11 6) ≤ 0 → (P 0 (r11, q))))))))) ∧ ((zin p1 0 999) = 0 → (∀ r14 : Nat → Int32, r14 = va_up r 6 1 → (((r14 6) ≤ 0 → ((WF (q 0) ∧ vix p0) ∧ (P (zIn (q 0) (iv p0) p1) (r14, q)))) ∧ (¬ (r14 6) ≤ 0 → (P 0 (r14, q))))))))
set_option maxRecDepth 100000 in
set_option maxHeartbeats 4000000 in
theorem t_X11_zoneOf {p : Program} {l : Launch} {e : Env} {s : State} {m : MethodId} {args : Array Value} {below : List Frame} {meth : Method} {c : Code} {D : va_G} {A : Nat → Prop} {T : Nat → ClassId} {m0 : Nat} {a : Nat → Nat} (C : GC p s m args meth c cX11_zoneOf "FreightRaterModel" (ws_X11_zoneOf) 3 D A (zty T)) (hr : meth.sig.returnType = (some .int)) (P : Int32 → RST → Prop) : ∀ (p0 : Int32) (p1 : Int32) (r : Nat → Int32) (q : Nat → Nat → Int32), wp_X11_zoneOf P p0 p1 r q → GW p l e rm_X11_zoneOf s m args below meth c D A 3 0 0 (MQ below (va_Qi P (RE D T m0 a A) A) args s 0 0 A) (RW m0 a T r q) 0 0 0 [(0, .ref m0), (1, .int p0), (2, .int p1)] [] := by
  have hw : ∀ {w : Cond}, w ∈ W0 → w.before args s = true := fun h => C.2.2.2.2.1 _ (List.mem_cons_of_mem _ h)
  intro p0 p1 r q h
  unfold wp_X11_zoneOf at h
  refine g_aload_n C dX11_zoneOf_0 rfl 0 rfl ?_
  refine g_aload_n C dX11_zoneOf_1 rfl 0 rfl ?_
  refine g_iload_n C dX11_zoneOf_2 rfl 1 rfl ?_
  refine gr_callVf C [.int p0] rfl (k_X11_isVersion l D T m0 a p0 r q) (w0_V 1 C.2.2.2.2.1 kw_1954 kw_1956 ks_51 kw_9 kw_1957 rfl rfl (by decide +kernel) ⟨by decide, by decide⟩) rfl (Nat.le_of_ble_eq_true rfl) (Nat.zero_le _) (Nat.zero_le _) dX11_zoneOf_3 ?_
  refine g_if_eq (tgt := 20) C dX11_zoneOf_6 (by decide) (fun z1 => ?_) (fun z1 => ?_)
  · replace h := h.1 z1
    refine g_iconst (v := 1) C dX11_zoneOf_20 (by decide) ?_
    refine g_goto (tgt := 38) C dX11_zoneOf_21 (by decide) ?_
    refine gr_put_6 C iwx_X11 (hw kw_1815) dX11_zoneOf_38 ?_
    refine gr_nr (fun r2 er2 => ?_)
    replace h := h r2 er2
    refine g_aload_n C dX11_zoneOf_41 rfl 0 rfl ?_
    refine gr_get C iwx_X11 6 (hw kw_1815) (by decide) rfl rfl dX11_zoneOf_42 ?_
    refine g_if_le (tgt := 52) C dX11_zoneOf_45 (by decide) (fun z3 => ?_) (fun z3 => ?_)
    · replace h := h.1 z3
      refine g_aload_n C dX11_zoneOf_52 rfl 0 rfl ?_
      refine g_iload_n C dX11_zoneOf_53 rfl 1 rfl ?_
      refine g_iload_n C dX11_zoneOf_54 rfl 2 rfl ?_
      obtain ⟨g4, h⟩ := h
      refine gr_callVf C [.int p0, .int p1] rfl (k_X11_zoneIn l D T m0 a p0 p1 r2 q g4) (w0_V 2 C.2.2.2.2.1 kw_1989 kw_1991 ks_56 kw_9 kw_1992 rfl rfl (by decide +kernel) ⟨by decide, by decide⟩) rfl (Nat.le_of_ble_eq_true rfl) (Nat.zero_le _) (Nat.zero_le _) dX11_zoneOf_55 ?_
      exact gr_iret C hr dX11_zoneOf_58 h
    · replace h := h.2 z3
      refine g_iconst (v := 0) C dX11_zoneOf_48 (by decide) ?_
      refine g_goto (tgt := 58) C dX11_zoneOf_49 (by decide) ?_
      exact gr_iret C hr dX11_zoneOf_58 h
  · replace h := h.2 z1
    refine g_iload_n C dX11_zoneOf_9 rfl 2 rfl ?_
    refine g_iconst (v := 0) C dX11_zoneOf_10 (by decide) ?_
    refine g_sipush (v := 999) C dX11_zoneOf_11 (by decide) ?_
    refine gr_callSf C [.int p1, .int 0, .int 999] rfl (k_X11_in l D T m0 a p1 0 999 r q) (w0_S 3 C.2.2.2.2.1 kw_1944 kw_1945 kw_9 kw_1946 rfl rfl (by decide +kernel) ⟨by decide, by decide⟩) rfl (Nat.le_of_ble_eq_true rfl) (Nat.zero_le _) (Nat.zero_le _) dX11_zoneOf_14 ?_
    refine g_if_ne (tgt := 24) C dX11_zoneOf_17 (by decide) (fun z5 => ?_) (fun z5 => ?_)
    · replace h := h.1 z5
      refine g_aload_n C dX11_zoneOf_24 rfl 0 rfl ?_
      refine g_iload_n C dX11_zoneOf_25 rfl 1 rfl ?_
      refine g_iload_n C dX11_zoneOf_26 rfl 2 rfl ?_
      obtain ⟨g6, h⟩ := h
      refine gr_callVf C [.int p0, .int p1] rfl (k_X11_zoneIn l D T m0 a p0 p1 r q g6) (w0_V 2 C.2.2.2.2.1 kw_1989 kw_1991 ks_56 kw_9 kw_1992 rfl rfl (by decide +kernel) ⟨by decide, by decide⟩) rfl (Nat.le_of_ble_eq_true rfl) (Nat.zero_le _) (Nat.zero_le _) dX11_zoneOf_27 ?_
      refine g_if_ne (tgt := 37) C dX11_zoneOf_30 (by decide) (fun z7 => ?_) (fun z7 => ?_)
      · replace h := h.1 z7
        refine g_iconst (v := 0) C dX11_zoneOf_37 (by decide) ?_
        refine gr_put_6 C iwx_X11 (hw kw_1815) dX11_zoneOf_38 ?_
        refine gr_nr (fun r8 er8 => ?_)
        replace h := h r8 er8
        refine g_aload_n C dX11_zoneOf_41 rfl 0 rfl ?_
        refine gr_get C iwx_X11 6 (hw kw_1815) (by decide) rfl rfl dX11_zoneOf_42 ?_
        refine g_if_le (tgt := 52) C dX11_zoneOf_45 (by decide) (fun z9 => ?_) (fun z9 => ?_)
        · replace h := h.1 z9
          refine g_aload_n C dX11_zoneOf_52 rfl 0 rfl ?_
          refine g_iload_n C dX11_zoneOf_53 rfl 1 rfl ?_
          refine g_iload_n C dX11_zoneOf_54 rfl 2 rfl ?_
          obtain ⟨g10, h⟩ := h
          refine gr_callVf C [.int p0, .int p1] rfl (k_X11_zoneIn l D T m0 a p0 p1 r8 q g10) (w0_V 2 C.2.2.2.2.1 kw_1989 kw_1991 ks_56 kw_9 kw_1992 rfl rfl (by decide +kernel) ⟨by decide, by decide⟩) rfl (Nat.le_of_ble_eq_true rfl) (Nat.zero_le _) (Nat.zero_le _) dX11_zoneOf_55 ?_
          exact gr_iret C hr dX11_zoneOf_58 h
        · replace h := h.2 z9
          refine g_iconst (v := 0) C dX11_zoneOf_48 (by decide) ?_
          refine g_goto (tgt := 58) C dX11_zoneOf_49 (by decide) ?_
          exact gr_iret C hr dX11_zoneOf_58 h
      · replace h := h.2 z7
        refine g_iconst (v := 2) C dX11_zoneOf_33 (by decide) ?_
        refine g_goto (tgt := 38) C dX11_zoneOf_34 (by decide) ?_
        refine gr_put_6 C iwx_X11 (hw kw_1815) dX11_zoneOf_38 ?_
        refine gr_nr (fun r11 er11 => ?_)
        replace h := h r11 er11
        refine g_aload_n C dX11_zoneOf_41 rfl 0 rfl ?_
        refine gr_get C iwx_X11 6 (hw kw_1815) (by decide) rfl rfl dX11_zoneOf_42 ?_
        refine g_if_le (tgt := 52) C dX11_zoneOf_45 (by decide) (fun z12 => ?_) (fun z12 => ?_)
        · replace h := h.1 z12
          refine g_aload_n C dX11_zoneOf_52 rfl 0 rfl ?_
          refine g_iload_n C dX11_zoneOf_53 rfl 1 rfl ?_
          refine g_iload_n C dX11_zoneOf_54 rfl 2 rfl ?_
          obtain ⟨g13, h⟩ := h
          refine gr_callVf C [.int p0, .int p1] rfl (k_X11_zoneIn l D T m0 a p0 p1 r11 q g13) (w0_V 2 C.2.2.2.2.1 kw_1989 kw_1991 ks_56 kw_9 kw_1992 rfl rfl (by decide +kernel) ⟨by decide, by decide⟩) rfl (Nat.le_of_ble_eq_true rfl) (Nat.zero_le _) (Nat.zero_le _) dX11_zoneOf_55 ?_
          exact gr_iret C hr dX11_zoneOf_58 h
        · replace h := h.2 z12
          refine g_iconst (v := 0) C dX11_zoneOf_48 (by decide) ?_
          refine g_goto (tgt := 58) C dX11_zoneOf_49 (by decide) ?_
          exact gr_iret C hr dX11_zoneOf_58 h
    · replace h := h.2 z5
      refine g_iconst (v := 1) C dX11_zoneOf_20 (by decide) ?_
      refine g_goto (tgt := 38) C dX11_zoneOf_21 (by decide) ?_
      refine gr_put_6 C iwx_X11 (hw kw_1815) dX11_zoneOf_38 ?_
      refine gr_nr (fun r14 er14 => ?_)
      replace h := h r14 er14
      refine g_aload_n C dX11_zoneOf_41 rfl 0 rfl ?_
      refine gr_get C iwx_X11 6 (hw kw_1815) (by decide) rfl rfl dX11_zoneOf_42 ?_
      refine g_if_le (tgt := 52) C dX11_zoneOf_45 (by decide) (fun z15 => ?_) (fun z15 => ?_)
      · replace h := h.1 z15
        refine g_aload_n C dX11_zoneOf_52 rfl 0 rfl ?_
        refine g_iload_n C dX11_zoneOf_53 rfl 1 rfl ?_
        refine g_iload_n C dX11_zoneOf_54 rfl 2 rfl ?_
        obtain ⟨g16, h⟩ := h
        refine gr_callVf C [.int p0, .int p1] rfl (k_X11_zoneIn l D T m0 a p0 p1 r14 q g16) (w0_V 2 C.2.2.2.2.1 kw_1989 kw_1991 ks_56 kw_9 kw_1992 rfl rfl (by decide +kernel) ⟨by decide, by decide⟩) rfl (Nat.le_of_ble_eq_true rfl) (Nat.zero_le _) (Nat.zero_le _) dX11_zoneOf_55 ?_
        exact gr_iret C hr dX11_zoneOf_58 h
      · replace h := h.2 z15
        refine g_iconst (v := 0) C dX11_zoneOf_48 (by decide) ?_
        refine g_goto (tgt := 58) C dX11_zoneOf_49 (by decide) ?_
        exact gr_iret C hr dX11_zoneOf_58 h
theorem c_X11_zoneOf (l : Launch) (D : va_G) (T : Nat → ClassId) (m0 : Nat) (a : Nat → Nat) (p0 : Int32) (p1 : Int32) (r : Nat → Int32) (q : Nat → Nat → Int32) (P : Int32 → RST → Prop) (h : wp_X11_zoneOf P p0 p1 r q) : RMi l yX11_zoneOf (ws_X11_zoneOf) rm_X11_zoneOf D T m0 a [.ref m0, .int p0, .int p1] r q P := gr_meti (by decide) rfl rfl (Nat.le_of_ble_eq_true rfl) (fun p e s m args below meth c A C hr => t_X11_zoneOf C hr P p0 p1 r q h)
theorem k_X11_zoneOf (l : Launch) (D : va_G) (T : Nat → ClassId) (m0 : Nat) (a : Nat → Nat) (p0 : Int32) (p1 : Int32) (r : Nat → Int32) (q : Nat → Nat → Int32) (h : WF (q 0)) : RMi l yX11_zoneOf (ws_X11_zoneOf) rm_X11_zoneOf D T m0 a [.ref m0, .int p0, .int p1] r q (fun v u => (u.2 = q ∧ kR r u.1 SC ∧ u.1 6 = zonC (q 0) p0 p1 ∧ (zonC (q 0) p0 p1 = 0 → v = zIn (q 0) (iv p0) p1))) := c_X11_zoneOf l D T m0 a p0 p1 r q _ <|
  (by
    unfold wp_X11_zoneOf
    refine ⟨fun c => code_p (by decide) (ap_bad (c := 1) (by unfold zonC; rw [if_pos c]) (by decide)), fun c => ⟨fun c2 => ?_, fun c2 => code_p (by decide) (ap_bad (c := 1) (by unfold zonC; rw [if_neg c, if_pos c2]) (by decide))⟩⟩
    obtain ⟨v, n, hv, h6, _, ep⟩ := vers_ix h c
    have hx : vix p0 := ⟨v, by omega, ep⟩
    refine ⟨⟨h, hx⟩, fun c3 => code_0 ⟨⟨h, hx⟩, ap_ok (by unfold zonC; rw [if_neg c, if_neg c2, if_neg c3]) k06 (by (try dsimp only); exact va_up_self _ _ _) rfl⟩, fun c3 => code_p (by decide) (ap_bad (c := 2) (by unfold zonC; rw [if_neg c, if_neg c2, if_pos c3]) (by decide))⟩)
abbrev ws_X11_account : List Cond := Cond.code yX11_account cX11_account 2 (some .int) :: W0
abbrev rm_X11_account : Room := ({ frames := 3, cells := 0, slots := 0, locals := 66 } : Room)
def wp_X11_account (P : Int32 → RST → Prop) (p0 : Int32) (r : Nat → Int32) (q : Nat → Nat → Int32) : Prop := ((zin p0 0 6) = 0 → (∀ r2 : Nat → Int32, r2 = va_up r 6 1 → (((r2 6) ≤ 0 → ((5 ≤ p0 → ((¬ p0 = 5 → ((WF (q 0)) ∧ (P (posF (q 0)) (r2, q)))) ∧ (p0 = 5 → (vp_in 3 3334 ∧ (P (q 0 (Int32.toNatClampNeg 3)) (r2, q)))))) ∧ (¬ 5 ≤ p0 → ((WF (q 0)) ∧ (P (accF (q 0) p0) (r2, q)))))) ∧ (¬ (r2 6) ≤ 0 → (P 0 (r2, q)))))) ∧ (¬ (zin p0 0 6) = 0 → (∀ r9 : Nat → Int32, r9 = va_up r 6 0 → (((r9 6) ≤ 0 → ((5 ≤ p0 → ((¬ p0 = 5 → ((WF (q 0)) ∧ (P (posF (q 0)) (r9, q)))) ∧ (p0 = 5 → (vp_in 3 3334 ∧ (P (q 0 (Int32.toNatClampNeg 3)) (r9, q)))))) ∧ (¬ 5 ≤ p0 → ((WF (q 0)) ∧ (P (accF (q 0) p0) (r9, q)))))) ∧ (¬ (r9 6) ≤ 0 → (P 0 (r9, q))))))
set_option maxRecDepth 100000 in
set_option maxHeartbeats 4000000 in
theorem t_X11_account {p : Program} {l : Launch} {e : Env} {s : State} {m : MethodId} {args : Array Value} {below : List Frame} {meth : Method} {c : Code} {D : va_G} {A : Nat → Prop} {T : Nat → ClassId} {m0 : Nat} {a : Nat → Nat} (C : GC p s m args meth c cX11_account "FreightRaterModel" (ws_X11_account) 2 D A (zty T)) (hr : meth.sig.returnType = (some .int)) (P : Int32 → RST → Prop) : ∀ (p0 : Int32) (r : Nat → Int32) (q : Nat → Nat → Int32), wp_X11_account P p0 r q → GW p l e rm_X11_account s m args below meth c D A 2 0 0 (MQ below (va_Qi P (RE D T m0 a A) A) args s 0 0 A) (RW m0 a T r q) 0 0 0 [(0, .ref m0), (1, .int p0)] [] := by
  have hw : ∀ {w : Cond}, w ∈ W0 → w.before args s = true := fun h => C.2.2.2.2.1 _ (List.mem_cons_of_mem _ h)
  intro p0 r q h
  unfold wp_X11_account at h
  refine g_aload_n C dX11_account_0 rfl 0 rfl ?_
  refine g_iload_n C dX11_account_1 rfl 1 rfl ?_
  refine g_iconst (v := 0) C dX11_account_2 (by decide) ?_
  refine g_bipush (v := 6) C dX11_account_3 (by decide) ?_
  refine gr_callSf C [.int p0, .int 0, .int 6] rfl (k_X11_in l D T m0 a p0 0 6 r q) (w0_S 3 C.2.2.2.2.1 kw_1944 kw_1945 kw_9 kw_1946 rfl rfl (by decide +kernel) ⟨by decide, by decide⟩) rfl (Nat.le_of_ble_eq_true rfl) (Nat.zero_le _) (Nat.zero_le _) dX11_account_5 ?_
  refine g_if_eq (tgt := 15) C dX11_account_8 (by decide) (fun z1 => ?_) (fun z1 => ?_)
  · replace h := h.1 z1
    refine g_iconst (v := 1) C dX11_account_15 (by decide) ?_
    refine gr_put_6 C iwx_X11 (hw kw_1815) dX11_account_16 ?_
    refine gr_nr (fun r2 er2 => ?_)
    replace h := h r2 er2
    refine g_aload_n C dX11_account_19 rfl 0 rfl ?_
    refine gr_get C iwx_X11 6 (hw kw_1815) (by decide) rfl rfl dX11_account_20 ?_
    refine g_if_le (tgt := 30) C dX11_account_23 (by decide) (fun z3 => ?_) (fun z3 => ?_)
    · replace h := h.1 z3
      refine g_iload_n C dX11_account_30 rfl 1 rfl ?_
      refine g_iconst (v := 5) C dX11_account_31 (by decide) ?_
      refine g_icmp_ge (tgt := 43) C dX11_account_32 (by decide) (fun z4 => ?_) (fun z4 => ?_)
      · replace h := h.1 z4
        refine g_iload_n C dX11_account_43 rfl 1 rfl ?_
        refine g_iconst (v := 5) C dX11_account_44 (by decide) ?_
        refine g_icmp_ne (tgt := 57) C dX11_account_45 (by decide) (fun z5 => ?_) (fun z5 => ?_)
        · replace h := h.1 z5
          refine g_aload_n C dX11_account_57 rfl 0 rfl ?_
          obtain ⟨g6, h⟩ := h
          refine gr_callVf C [] rfl (k_X11_posted l D T m0 a  r2 q g6) (w0_V 0 C.2.2.2.2.1 kw_2291 kw_2293 ks_103 kw_9 kw_2294 rfl rfl (by decide +kernel) ⟨by decide, by decide⟩) rfl (Nat.le_of_ble_eq_true rfl) (Nat.zero_le _) (Nat.zero_le _) dX11_account_58 ?_
          exact gr_iret C hr dX11_account_61 h
        · replace h := h.2 z5
          refine g_aload_n C dX11_account_48 rfl 0 rfl ?_
          refine gr_get C iwx_X11 0 (hw kw_1809) (by decide) rfl rfl dX11_account_49 ?_
          refine g_iconst (v := 3) C dX11_account_52 (by decide) ?_
          obtain ⟨g7, h⟩ := h
          refine gr_ald_0 C g7 dX11_account_53 ?_
          refine g_goto (tgt := 61) C dX11_account_54 (by decide) ?_
          exact gr_iret C hr dX11_account_61 h
      · replace h := h.2 z4
        refine g_aload_n C dX11_account_35 rfl 0 rfl ?_
        refine g_iload_n C dX11_account_36 rfl 1 rfl ?_
        obtain ⟨g8, h⟩ := h
        refine gr_callVf C [.int p0] rfl (k_X11_accountOf l D T m0 a p0 r2 q g8) (w0_V 1 C.2.2.2.2.1 kw_2303 kw_2305 ks_105 kw_9 kw_2306 rfl rfl (by decide +kernel) ⟨by decide, by decide⟩) rfl (Nat.le_of_ble_eq_true rfl) (Nat.zero_le _) (Nat.zero_le _) dX11_account_37 ?_
        refine g_goto (tgt := 61) C dX11_account_40 (by decide) ?_
        exact gr_iret C hr dX11_account_61 h
    · replace h := h.2 z3
      refine g_iconst (v := 0) C dX11_account_26 (by decide) ?_
      refine g_goto (tgt := 61) C dX11_account_27 (by decide) ?_
      exact gr_iret C hr dX11_account_61 h
  · replace h := h.2 z1
    refine g_iconst (v := 0) C dX11_account_11 (by decide) ?_
    refine g_goto (tgt := 16) C dX11_account_12 (by decide) ?_
    refine gr_put_6 C iwx_X11 (hw kw_1815) dX11_account_16 ?_
    refine gr_nr (fun r9 er9 => ?_)
    replace h := h r9 er9
    refine g_aload_n C dX11_account_19 rfl 0 rfl ?_
    refine gr_get C iwx_X11 6 (hw kw_1815) (by decide) rfl rfl dX11_account_20 ?_
    refine g_if_le (tgt := 30) C dX11_account_23 (by decide) (fun z10 => ?_) (fun z10 => ?_)
    · replace h := h.1 z10
      refine g_iload_n C dX11_account_30 rfl 1 rfl ?_
      refine g_iconst (v := 5) C dX11_account_31 (by decide) ?_
      refine g_icmp_ge (tgt := 43) C dX11_account_32 (by decide) (fun z11 => ?_) (fun z11 => ?_)
      · replace h := h.1 z11
        refine g_iload_n C dX11_account_43 rfl 1 rfl ?_
        refine g_iconst (v := 5) C dX11_account_44 (by decide) ?_
        refine g_icmp_ne (tgt := 57) C dX11_account_45 (by decide) (fun z12 => ?_) (fun z12 => ?_)
        · replace h := h.1 z12
          refine g_aload_n C dX11_account_57 rfl 0 rfl ?_
          obtain ⟨g13, h⟩ := h
          refine gr_callVf C [] rfl (k_X11_posted l D T m0 a  r9 q g13) (w0_V 0 C.2.2.2.2.1 kw_2291 kw_2293 ks_103 kw_9 kw_2294 rfl rfl (by decide +kernel) ⟨by decide, by decide⟩) rfl (Nat.le_of_ble_eq_true rfl) (Nat.zero_le _) (Nat.zero_le _) dX11_account_58 ?_
          exact gr_iret C hr dX11_account_61 h
        · replace h := h.2 z12
          refine g_aload_n C dX11_account_48 rfl 0 rfl ?_
          refine gr_get C iwx_X11 0 (hw kw_1809) (by decide) rfl rfl dX11_account_49 ?_
          refine g_iconst (v := 3) C dX11_account_52 (by decide) ?_
          obtain ⟨g14, h⟩ := h
          refine gr_ald_0 C g14 dX11_account_53 ?_
          refine g_goto (tgt := 61) C dX11_account_54 (by decide) ?_
          exact gr_iret C hr dX11_account_61 h
      · replace h := h.2 z11
        refine g_aload_n C dX11_account_35 rfl 0 rfl ?_
        refine g_iload_n C dX11_account_36 rfl 1 rfl ?_
        obtain ⟨g15, h⟩ := h
        refine gr_callVf C [.int p0] rfl (k_X11_accountOf l D T m0 a p0 r9 q g15) (w0_V 1 C.2.2.2.2.1 kw_2303 kw_2305 ks_105 kw_9 kw_2306 rfl rfl (by decide +kernel) ⟨by decide, by decide⟩) rfl (Nat.le_of_ble_eq_true rfl) (Nat.zero_le _) (Nat.zero_le _) dX11_account_37 ?_
        refine g_goto (tgt := 61) C dX11_account_40 (by decide) ?_
        exact gr_iret C hr dX11_account_61 h
    · replace h := h.2 z10
      refine g_iconst (v := 0) C dX11_account_26 (by decide) ?_
      refine g_goto (tgt := 61) C dX11_account_27 (by decide) ?_
      exact gr_iret C hr dX11_account_61 h
theorem c_X11_account (l : Launch) (D : va_G) (T : Nat → ClassId) (m0 : Nat) (a : Nat → Nat) (p0 : Int32) (r : Nat → Int32) (q : Nat → Nat → Int32) (P : Int32 → RST → Prop) (h : wp_X11_account P p0 r q) : RMi l yX11_account (ws_X11_account) rm_X11_account D T m0 a [.ref m0, .int p0] r q P := gr_meti (by decide) rfl rfl (Nat.le_of_ble_eq_true rfl) (fun p e s m args below meth c A C hr => t_X11_account C hr P p0 r q h)
theorem k_X11_account (l : Launch) (D : va_G) (T : Nat → ClassId) (m0 : Nat) (a : Nat → Nat) (p0 : Int32) (r : Nat → Int32) (q : Nat → Nat → Int32) (h : WF (q 0)) : RMi l yX11_account (ws_X11_account) rm_X11_account D T m0 a [.ref m0, .int p0] r q (fun v u => (u.2 = q ∧ kR r u.1 SC ∧ u.1 6 = auC p0 ∧ (auC p0 = 0 → v = auA (q 0) p0))) := c_X11_account l D T m0 a p0 r q _ <|
  (by
    unfold wp_X11_account
    refine ⟨fun c => code_p (by decide) (ap_bad (c := 1) (by unfold auC; rw [if_pos c]) (by decide)), fun c => code_0 ⟨fun c2 => ⟨fun c3 => ⟨h, ap_ok (by unfold auC; rw [if_neg c]) k06 (by (try dsimp only); exact va_up_self _ _ _) (by unfold auA; rw [if_pos c2, if_neg c3])⟩, fun c3 => ⟨by simp (disch := omega) only [li_2, li_3, li_4, li_5, li_6, li_7, li_8, li_9, li_10, li_12, li_14, li_20, li_26, li_30, li_31, li_36, li_38, li_47, li_48, li_50, li_57, li_58, li_80, li_98, li_99, li_100, li_102, li_104, li_105, li_108, li_109, li_110, li_114, li_115, li_119, li_122, li_137, li_146, li_147, li_148, li_149, li_150, li_200, li_255, li_256, li_274, li_510, li_512, li_640, li_999, li_1000, li_1024, li_3334, li_5000, li_9999, li_10000, li_23338, li_26672, li_30000, li_99999, li_150000, li_300000, pk_mul, nI_add, pk_sub, nI_clamp, nI_1, nI_p1, nI_a0, nI_0a, nI_m0, nI_m1, cl_0, cl_1, z01, z11, nI_leI, nI_ltI, nI_eq, nz_lt0, nz_le, nz_eq0, nz_pos, nz_le0, nz_eq1, nz_lt1, nz_ge1, nz_le1, nz_gt1, nz_vp, nz_vp0, nz_vp1, six_nI, vix_nI, bix_nI, pix_nI, fix_nI, gix_nI, rix_nI, zix_nI, pix_0, pix_1, bix_0, fix_0, fix_1, rix_1, true_and, and_true]; decide, ap_ok (by unfold auC; rw [if_neg c]) k06 (by (try dsimp only); exact va_up_self _ _ _) (by unfold auA; rw [if_pos c2, if_pos c3]; rfl)⟩⟩, fun c2 => ⟨h, ap_ok (by unfold auC; rw [if_neg c]) k06 (by (try dsimp only); exact va_up_self _ _ _) (by unfold auA; rw [if_neg c2])⟩⟩⟩)
abbrev ws_X11_rebate : List Cond := Cond.code yX11_rebate cX11_rebate 7 (some .int) :: W0
abbrev rm_X11_rebate : Room := ({ frames := 3, cells := 0, slots := 0, locals := 66 } : Room)
def wb_X11_rebate_41 (rec : Int32 → Int32 → Int32 → Int32 → (Nat → Int32) → (Nat → Nat → Int32) → Prop) (P : Int32 → RST → Prop) (x2 : Int32) (x3 : Int32) (x4 : Int32) (x5 : Int32) (r : Nat → Int32) (q : Nat → Nat → Int32) : Prop := vp_in 2 3334 ∧ (((q 0 (Int32.toNatClampNeg 2)) ≤ x5 → (P (pctF x2 x4) (r, q))) ∧ (¬ (q 0 (Int32.toNatClampNeg 2)) ≤ x5 → (vp_in (4 + (2 * x5)) 3334 ∧ (∀ v9 : Int32, v9 = (q 0 (Int32.toNatClampNeg (4 + (2 * x5)))) → ((x2 < v9 → (∀ v11 : Int32, v11 = x5 + 1 → (rec x2 x3 x4 v11 r q))) ∧ (¬ x2 < v9 → ((v9 ≤ x3 → (∀ v13 : Int32, v13 = x5 + 1 → (rec x2 x3 x4 v13 r q))) ∧ (¬ v9 ≤ x3 → (vp_in ((4 + (2 * x5)) + 1) 3334 ∧ (∀ v15 : Int32, v15 = (q 0 (Int32.toNatClampNeg ((4 + (2 * x5)) + 1))) → (∀ v16 : Int32, v16 = x5 + 1 → (rec x2 v9 v15 v16 r q))))))))))))
def wp_X11_rebate_41 (P : Int32 → RST → Prop) : Nat → Int32 → Int32 → Int32 → Int32 → (Nat → Int32) → (Nat → Nat → Int32) → Prop
  | 0 => fun _ _ _ _ _ _ => False
  | n + 1 => fun x2 x3 x4 x5 r q => wb_X11_rebate_41 (wp_X11_rebate_41  P n)  P x2 x3 x4 x5 r q
set_option maxRecDepth 100000 in
set_option maxHeartbeats 4000000 in
theorem t_X11_rebate_41 {p : Program} {l : Launch} {e : Env} {s : State} {m : MethodId} {args : Array Value} {below : List Frame} {meth : Method} {c : Code} {D : va_G} {A : Nat → Prop} {T : Nat → ClassId} {m0 : Nat} {a : Nat → Nat} (C : GC p s m args meth c cX11_rebate "FreightRaterModel" (ws_X11_rebate) 7 D A (zty T)) (hr : meth.sig.returnType = (some .int)) (P : Int32 → RST → Prop) : ∀ (n : Nat) (x2 : Int32) (x3 : Int32) (x4 : Int32) (x5 : Int32) (r : Nat → Int32) (q : Nat → Nat → Int32), wp_X11_rebate_41  P n x2 x3 x4 x5 r q → GW p l e rm_X11_rebate s m args below meth c D A 7 0 0 (MQ below (va_Qi P (RE D T m0 a A) A) args s 0 0 A) (RW m0 a T r q) 0 0 41 [(0, .ref m0), (2, .int x2), (3, .int x3), (4, .int x4), (5, .int x5)] [] := by
  have hw : ∀ {w : Cond}, w ∈ W0 → w.before args s = true := fun h => C.2.2.2.2.1 _ (List.mem_cons_of_mem _ h)
  intro n
  induction n with
  | zero => intro x2 x3 x4 x5 r q h; exact h.elim
  | succ n ih =>
    intro x2 x3 x4 x5 r q h
    replace h : wb_X11_rebate_41 (wp_X11_rebate_41  P n)  P x2 x3 x4 x5 r q := h
    unfold wb_X11_rebate_41 at h
    refine g_iload C dX11_rebate_41 4 rfl ?_
    refine g_aload_n C dX11_rebate_43 rfl 0 rfl ?_
    refine gr_get C iwx_X11 0 (hw kw_1809) (by decide) rfl rfl dX11_rebate_44 ?_
    refine g_iconst (v := 2) C dX11_rebate_47 (by decide) ?_
    obtain ⟨g6, h⟩ := h
    refine gr_ald_0 C g6 dX11_rebate_48 ?_
    refine g_icmp_ge (tgt := 101) C dX11_rebate_49 (by decide) (fun z7 => ?_) (fun z7 => ?_)
    · replace h := h.1 z7
      refine g_iload_n C dX11_rebate_101 rfl 1 rfl ?_
      refine g_iload C dX11_rebate_102 3 rfl ?_
      refine gr_callSf C [.int x2, .int x4] rfl (k_X11_percent l D T m0 a x2 x4 r q) (w0_S 2 C.2.2.2.2.1 kw_2222 kw_2223 kw_9 kw_2224 rfl rfl (by decide +kernel) ⟨by decide, by decide⟩) rfl (Nat.le_of_ble_eq_true rfl) (Nat.zero_le _) (Nat.zero_le _) dX11_rebate_104 ?_
      exact gr_iret C hr dX11_rebate_107 h
    · replace h := h.2 z7
      refine g_aload_n C dX11_rebate_52 rfl 0 rfl ?_
      refine gr_get C iwx_X11 0 (hw kw_1809) (by decide) rfl rfl dX11_rebate_53 ?_
      refine g_iconst (v := 4) C dX11_rebate_56 (by decide) ?_
      refine g_iconst (v := 2) C dX11_rebate_57 (by decide) ?_
      refine g_iload C dX11_rebate_58 4 rfl ?_
      refine g_imul C dX11_rebate_60 ?_
      refine g_iadd C dX11_rebate_61 ?_
      obtain ⟨g8, h⟩ := h
      refine gr_ald_0 C g8 dX11_rebate_62 ?_
      refine g_topi (fun v9 ev9 => ?_)
      replace h := h v9 ev9
      refine g_istore (lv' := [(6, .int v9), (0, .ref m0), (2, .int x2), (3, .int x3), (4, .int x4), (5, .int x5)]) C dX11_rebate_63 (by decide) rfl ?_
      refine g_iload C dX11_rebate_65 0 rfl ?_
      refine g_iload_n C dX11_rebate_67 rfl 2 rfl ?_
      refine g_icmp_gt (tgt := 95) C dX11_rebate_68 (by decide) (fun z10 => ?_) (fun z10 => ?_)
      · replace h := h.1 z10
        obtain ⟨v11, ev11⟩ : ∃ y : Int32, y = x5 + 1 := ⟨_, rfl⟩
        replace h := h v11 ev11
        refine g_iinc (v := v11) (lv' := [(5, .int v11), (6, .int v9), (0, .ref m0), (2, .int x2), (3, .int x3), (4, .int x4)]) C dX11_rebate_95 (j := 5) rfl (by rw [ev11]; rfl) (by decide) rfl ?_
        refine g_goto (tgt := 41) C dX11_rebate_98 (by decide) ?_
        refine g_locals [2, 3, 4, 5, 0] rfl ?_
        exact ih x2 x3 x4 v11 r q h
      · replace h := h.2 z10
        refine g_iload C dX11_rebate_71 0 rfl ?_
        refine g_iload_n C dX11_rebate_73 rfl 3 rfl ?_
        refine g_icmp_le (tgt := 95) C dX11_rebate_74 (by decide) (fun z12 => ?_) (fun z12 => ?_)
        · replace h := h.1 z12
          obtain ⟨v13, ev13⟩ : ∃ y : Int32, y = x5 + 1 := ⟨_, rfl⟩
          replace h := h v13 ev13
          refine g_iinc (v := v13) (lv' := [(5, .int v13), (6, .int v9), (0, .ref m0), (2, .int x2), (3, .int x3), (4, .int x4)]) C dX11_rebate_95 (j := 5) rfl (by rw [ev13]; rfl) (by decide) rfl ?_
          refine g_goto (tgt := 41) C dX11_rebate_98 (by decide) ?_
          refine g_locals [2, 3, 4, 5, 0] rfl ?_
          exact ih x2 x3 x4 v13 r q h
        · replace h := h.2 z12
          refine g_iload C dX11_rebate_77 0 rfl ?_
          refine g_istore_n (lv' := [(3, .int v9), (6, .int v9), (0, .ref m0), (2, .int x2), (4, .int x4), (5, .int x5)]) C dX11_rebate_79 rfl (by decide) rfl ?_
          refine g_aload_n C dX11_rebate_80 rfl 2 rfl ?_
          refine gr_get C iwx_X11 0 (hw kw_1809) (by decide) rfl rfl dX11_rebate_81 ?_
          refine g_iconst (v := 4) C dX11_rebate_84 (by decide) ?_
          refine g_iconst (v := 2) C dX11_rebate_85 (by decide) ?_
          refine g_iload C dX11_rebate_86 5 rfl ?_
          refine g_imul C dX11_rebate_88 ?_
          refine g_iadd C dX11_rebate_89 ?_
          refine g_iconst (v := 1) C dX11_rebate_90 (by decide) ?_
          refine g_iadd C dX11_rebate_91 ?_
          obtain ⟨g14, h⟩ := h
          refine gr_ald_0 C g14 dX11_rebate_92 ?_
          refine g_topi (fun v15 ev15 => ?_)
          replace h := h v15 ev15
          refine g_istore (lv' := [(4, .int v15), (3, .int v9), (6, .int v9), (0, .ref m0), (2, .int x2), (5, .int x5)]) C dX11_rebate_93 (by decide) rfl ?_
          obtain ⟨v16, ev16⟩ : ∃ y : Int32, y = x5 + 1 := ⟨_, rfl⟩
          replace h := h v16 ev16
          refine g_iinc (v := v16) (lv' := [(5, .int v16), (4, .int v15), (3, .int v9), (6, .int v9), (0, .ref m0), (2, .int x2)]) C dX11_rebate_95 (j := 5) rfl (by rw [ev16]; rfl) (by decide) rfl ?_
          refine g_goto (tgt := 41) C dX11_rebate_98 (by decide) ?_
          refine g_locals [4, 5, 2, 1, 0] rfl ?_
          exact ih x2 v9 v15 v16 r q h
def wp_X11_rebate (P : Int32 → RST → Prop) (p0 : Int32) (r : Nat → Int32) (q : Nat → Nat → Int32) : Prop := ((zin p0 0 3) = 0 → (∀ r2 : Nat → Int32, r2 = va_up r 6 1 → (((r2 6) ≤ 0 → ((WF (q 0)) ∧ (∀ v5 : Int32, v5 = (accF (q 0) p0) → (∃ k17 : Nat, wp_X11_rebate_41  P k17 v5 (-1) 0 0 r2 q)))) ∧ (¬ (r2 6) ≤ 0 → (P 0 (r2, q)))))) ∧ (¬ (zin p0 0 3) = 0 → (∀ r18 : Nat → Int32, r18 = va_up r 6 0 → (((r18 6) ≤ 0 → ((WF (q 0)) ∧ (∀ v21 : Int32, v21 = (accF (q 0) p0) → (∃ k22 : Nat, wp_X11_rebate_41  P k22 v21 (-1) 0 0 r18 q)))) ∧ (¬ (r18 6) ≤ 0 → (P 0 (r18, q))))))
set_option maxRecDepth 100000 in
set_option maxHeartbeats 4000000 in
theorem t_X11_rebate {p : Program} {l : Launch} {e : Env} {s : State} {m : MethodId} {args : Array Value} {below : List Frame} {meth : Method} {c : Code} {D : va_G} {A : Nat → Prop} {T : Nat → ClassId} {m0 : Nat} {a : Nat → Nat} (C : GC p s m args meth c cX11_rebate "FreightRaterModel" (ws_X11_rebate) 7 D A (zty T)) (hr : meth.sig.returnType = (some .int)) (P : Int32 → RST → Prop) : ∀ (p0 : Int32) (r : Nat → Int32) (q : Nat → Nat → Int32), wp_X11_rebate P p0 r q → GW p l e rm_X11_rebate s m args below meth c D A 7 0 0 (MQ below (va_Qi P (RE D T m0 a A) A) args s 0 0 A) (RW m0 a T r q) 0 0 0 [(0, .ref m0), (1, .int p0)] [] := by
  have hw : ∀ {w : Cond}, w ∈ W0 → w.before args s = true := fun h => C.2.2.2.2.1 _ (List.mem_cons_of_mem _ h)
  intro p0 r q h
  unfold wp_X11_rebate at h
  refine g_aload_n C dX11_rebate_0 rfl 0 rfl ?_
  refine g_iload_n C dX11_rebate_1 rfl 1 rfl ?_
  refine g_iconst (v := 0) C dX11_rebate_2 (by decide) ?_
  refine g_iconst (v := 3) C dX11_rebate_3 (by decide) ?_
  refine gr_callSf C [.int p0, .int 0, .int 3] rfl (k_X11_in l D T m0 a p0 0 3 r q) (w0_S 3 C.2.2.2.2.1 kw_1944 kw_1945 kw_9 kw_1946 rfl rfl (by decide +kernel) ⟨by decide, by decide⟩) rfl (Nat.le_of_ble_eq_true rfl) (Nat.zero_le _) (Nat.zero_le _) dX11_rebate_4 ?_
  refine g_if_eq (tgt := 14) C dX11_rebate_7 (by decide) (fun z1 => ?_) (fun z1 => ?_)
  · replace h := h.1 z1
    refine g_iconst (v := 1) C dX11_rebate_14 (by decide) ?_
    refine gr_put_6 C iwx_X11 (hw kw_1815) dX11_rebate_15 ?_
    refine gr_nr (fun r2 er2 => ?_)
    replace h := h r2 er2
    refine g_aload_n C dX11_rebate_18 rfl 0 rfl ?_
    refine gr_get C iwx_X11 6 (hw kw_1815) (by decide) rfl rfl dX11_rebate_19 ?_
    refine g_if_le (tgt := 27) C dX11_rebate_22 (by decide) (fun z3 => ?_) (fun z3 => ?_)
    · replace h := h.1 z3
      refine g_aload_n C dX11_rebate_27 rfl 0 rfl ?_
      refine g_iload_n C dX11_rebate_28 rfl 1 rfl ?_
      obtain ⟨g4, h⟩ := h
      refine gr_callVf C [.int p0] rfl (k_X11_accountOf l D T m0 a p0 r2 q g4) (w0_V 1 C.2.2.2.2.1 kw_2303 kw_2305 ks_105 kw_9 kw_2306 rfl rfl (by decide +kernel) ⟨by decide, by decide⟩) rfl (Nat.le_of_ble_eq_true rfl) (Nat.zero_le _) (Nat.zero_le _) dX11_rebate_29 ?_
      refine g_topi (fun v5 ev5 => ?_)
      replace h := h v5 ev5
      refine g_istore_n (lv' := [(2, .int v5), (0, .ref m0), (1, .int p0)]) C dX11_rebate_32 rfl (by decide) rfl ?_
      refine g_iconst (v := -1) C dX11_rebate_33 (by decide) ?_
      refine g_istore_n (lv' := [(3, .int (-1)), (2, .int v5), (0, .ref m0), (1, .int p0)]) C dX11_rebate_34 rfl (by decide) rfl ?_
      refine g_iconst (v := 0) C dX11_rebate_35 (by decide) ?_
      refine g_istore (lv' := [(4, .int 0), (3, .int (-1)), (2, .int v5), (0, .ref m0), (1, .int p0)]) C dX11_rebate_36 (by decide) rfl ?_
      refine g_iconst (v := 0) C dX11_rebate_38 (by decide) ?_
      refine g_istore (lv' := [(5, .int 0), (4, .int 0), (3, .int (-1)), (2, .int v5), (0, .ref m0), (1, .int p0)]) C dX11_rebate_39 (by decide) rfl ?_
      refine g_locals [4, 3, 2, 1, 0] rfl ?_
      obtain ⟨k17, h⟩ := h
      refine t_X11_rebate_41 C hr  P  k17 v5 (-1) 0 0 r2 q h
    · replace h := h.2 z3
      refine g_iconst (v := 0) C dX11_rebate_25 (by decide) ?_
      exact gr_iret C hr dX11_rebate_26 h
  · replace h := h.2 z1
    refine g_iconst (v := 0) C dX11_rebate_10 (by decide) ?_
    refine g_goto (tgt := 15) C dX11_rebate_11 (by decide) ?_
    refine gr_put_6 C iwx_X11 (hw kw_1815) dX11_rebate_15 ?_
    refine gr_nr (fun r18 er18 => ?_)
    replace h := h r18 er18
    refine g_aload_n C dX11_rebate_18 rfl 0 rfl ?_
    refine gr_get C iwx_X11 6 (hw kw_1815) (by decide) rfl rfl dX11_rebate_19 ?_
    refine g_if_le (tgt := 27) C dX11_rebate_22 (by decide) (fun z19 => ?_) (fun z19 => ?_)
    · replace h := h.1 z19
      refine g_aload_n C dX11_rebate_27 rfl 0 rfl ?_
      refine g_iload_n C dX11_rebate_28 rfl 1 rfl ?_
      obtain ⟨g20, h⟩ := h
      refine gr_callVf C [.int p0] rfl (k_X11_accountOf l D T m0 a p0 r18 q g20) (w0_V 1 C.2.2.2.2.1 kw_2303 kw_2305 ks_105 kw_9 kw_2306 rfl rfl (by decide +kernel) ⟨by decide, by decide⟩) rfl (Nat.le_of_ble_eq_true rfl) (Nat.zero_le _) (Nat.zero_le _) dX11_rebate_29 ?_
      refine g_topi (fun v21 ev21 => ?_)
      replace h := h v21 ev21
      refine g_istore_n (lv' := [(2, .int v21), (0, .ref m0), (1, .int p0)]) C dX11_rebate_32 rfl (by decide) rfl ?_
      refine g_iconst (v := -1) C dX11_rebate_33 (by decide) ?_
      refine g_istore_n (lv' := [(3, .int (-1)), (2, .int v21), (0, .ref m0), (1, .int p0)]) C dX11_rebate_34 rfl (by decide) rfl ?_
      refine g_iconst (v := 0) C dX11_rebate_35 (by decide) ?_
      refine g_istore (lv' := [(4, .int 0), (3, .int (-1)), (2, .int v21), (0, .ref m0), (1, .int p0)]) C dX11_rebate_36 (by decide) rfl ?_
      refine g_iconst (v := 0) C dX11_rebate_38 (by decide) ?_
      refine g_istore (lv' := [(5, .int 0), (4, .int 0), (3, .int (-1)), (2, .int v21), (0, .ref m0), (1, .int p0)]) C dX11_rebate_39 (by decide) rfl ?_
      refine g_locals [4, 3, 2, 1, 0] rfl ?_
      obtain ⟨k22, h⟩ := h
      refine t_X11_rebate_41 C hr  P  k22 v21 (-1) 0 0 r18 q h
    · replace h := h.2 z19
      refine g_iconst (v := 0) C dX11_rebate_25 (by decide) ?_
      exact gr_iret C hr dX11_rebate_26 h
theorem c_X11_rebate (l : Launch) (D : va_G) (T : Nat → ClassId) (m0 : Nat) (a : Nat → Nat) (p0 : Int32) (r : Nat → Int32) (q : Nat → Nat → Int32) (P : Int32 → RST → Prop) (h : wp_X11_rebate P p0 r q) : RMi l yX11_rebate (ws_X11_rebate) rm_X11_rebate D T m0 a [.ref m0, .int p0] r q P := gr_meti (by decide) rfl rfl (Nat.le_of_ble_eq_true rfl) (fun p e s m args below meth c A C hr => t_X11_rebate C hr P p0 r q h)
theorem rl_rebate {P : Int32 → RST → Prop} {r : Nat → Int32} {q : Nat → Nat → Int32} {sum : Int32} {n : Nat} (hn : n ≤ 5) (hm : q 0 2 = nI n) : ∀ (k i fuel : Nat) (most p : Int32), i + k = n → k < fuel → P (pctF sum (rbFold (q 0) sum k i most p)) (r, q) → wp_X11_rebate_41 P fuel sum most p (nI i) r q := by
  intro k
  induction k with
  | zero =>
    intro i fuel most p hi hf hp
    obtain ⟨f, rfl⟩ : ∃ f, fuel = f + 1 := ⟨fuel - 1, by omega⟩; rw [wp_X11_rebate_41]; unfold wb_X11_rebate_41; dsimp only
    simp (disch := omega) only [hm, li_2, li_3, li_4, li_5, li_6, li_7, li_8, li_9, li_10, li_12, li_14, li_20, li_26, li_30, li_31, li_36, li_38, li_47, li_48, li_50, li_57, li_58, li_80, li_98, li_99, li_100, li_102, li_104, li_105, li_108, li_109, li_110, li_114, li_115, li_119, li_122, li_137, li_146, li_147, li_148, li_149, li_150, li_200, li_255, li_256, li_274, li_510, li_512, li_640, li_999, li_1000, li_1024, li_3334, li_5000, li_9999, li_10000, li_23338, li_26672, li_30000, li_99999, li_150000, li_300000, pk_mul, nI_add, pk_sub, nI_clamp, nI_1, nI_p1, nI_a0, nI_0a, nI_m0, nI_m1, cl_0, cl_1, z01, z11, nI_leI, nI_ltI, nI_eq, nz_lt0, nz_le, nz_eq0, nz_pos, nz_le0, nz_eq1, nz_lt1, nz_ge1, nz_le1, nz_gt1, nz_vp, nz_vp0, nz_vp1, six_nI, vix_nI, bix_nI, pix_nI, fix_nI, gix_nI, rix_nI, zix_nI, pix_0, pix_1, bix_0, fix_0, fix_1, rix_1, true_and, and_true]
    exact ⟨by decide, fun _ => hp, fun h => absurd (by omega) h⟩
  | succ k ih =>
    intro i fuel most p hi hf hp
    obtain ⟨f, rfl⟩ : ∃ f, fuel = f + 1 := ⟨fuel - 1, by omega⟩; rw [wp_X11_rebate_41]; unfold wb_X11_rebate_41; dsimp only
    rw [rbFold] at hp
    simp (disch := omega) only [hm, li_2, li_3, li_4, li_5, li_6, li_7, li_8, li_9, li_10, li_12, li_14, li_20, li_26, li_30, li_31, li_36, li_38, li_47, li_48, li_50, li_57, li_58, li_80, li_98, li_99, li_100, li_102, li_104, li_105, li_108, li_109, li_110, li_114, li_115, li_119, li_122, li_137, li_146, li_147, li_148, li_149, li_150, li_200, li_255, li_256, li_274, li_510, li_512, li_640, li_999, li_1000, li_1024, li_3334, li_5000, li_9999, li_10000, li_23338, li_26672, li_30000, li_99999, li_150000, li_300000, pk_mul, nI_add, pk_sub, nI_clamp, nI_1, nI_p1, nI_a0, nI_0a, nI_m0, nI_m1, cl_0, cl_1, z01, z11, nI_leI, nI_ltI, nI_eq, nz_lt0, nz_le, nz_eq0, nz_pos, nz_le0, nz_eq1, nz_lt1, nz_ge1, nz_le1, nz_gt1, nz_vp, nz_vp0, nz_vp1, six_nI, vix_nI, bix_nI, pix_nI, fix_nI, gix_nI, rix_nI, zix_nI, pix_0, pix_1, bix_0, fix_0, fix_1, rix_1, true_and, and_true]
    refine ⟨by decide, fun h => absurd h (by omega), fun _ => ⟨by omega, fun v9 e9 => ?_⟩⟩
    subst e9
    refine ⟨fun c v11 e11 => ?_, fun c => ⟨fun c2 v11 e11 => ?_, fun c2 => ⟨by omega, fun v15 e15 v16 e16 => ?_⟩⟩⟩
    · subst e11
      rw [if_neg (fun z => absurd z.1 (Int32.not_le.mpr c))] at hp
      exact ih (i + 1) f _ _ (by omega) (by omega) hp
    · subst e11
      rw [if_neg (fun z => absurd z.2 (Int32.not_lt.mpr c2))] at hp
      exact ih (i + 1) f _ _ (by omega) (by omega) hp
    · subst e15 e16
      rw [if_pos ⟨Int32.not_lt.mp c, Int32.not_le.mp c2⟩] at hp
      exact ih (i + 1) f _ _ (by omega) (by omega) hp
theorem k_X11_rebate (l : Launch) (D : va_G) (T : Nat → ClassId) (m0 : Nat) (a : Nat → Nat) (p0 : Int32) (r : Nat → Int32) (q : Nat → Nat → Int32) (h : WF (q 0)) : RMi l yX11_rebate (ws_X11_rebate) rm_X11_rebate D T m0 a [.ref m0, .int p0] r q (fun v u => (u.2 = q ∧ kR r u.1 SC ∧ u.1 6 = rbC p0 ∧ (rbC p0 = 0 → v = rebF (q 0) p0))) := c_X11_rebate l D T m0 a p0 r q _ <|
  (by
    unfold wp_X11_rebate
    obtain ⟨n, hn, hm⟩ := h.2.2.1
    refine ⟨fun c => code_p (by decide) (ap_bad (c := 1) (by unfold rbC; rw [if_pos c]) (by decide)), fun c => code_0 ⟨h, fun v21 e21 => ?_⟩⟩
    subst e21
    refine ⟨n + 1, rl_rebate hn hm n 0 _ (-1) 0 (by omega) (by omega) (ap_ok (by unfold rbC; rw [if_neg c]) k06 (by (try dsimp only); exact va_up_self _ _ _) ?_)⟩
    unfold rebF
    rw [hm, show iv (nI n) = n from nI_clamp (by omega)])
abbrev ws_X11_paper : List Cond := Cond.code yX11_paper cX11_paper 2 (some .char) :: W0
abbrev rm_X11_paper : Room := ({ frames := 1, cells := 0, slots := 0, locals := 22 } : Room)
def wp_X11_paper (P : Int32 → RST → Prop) (p0 : Int32) (r : Nat → Int32) (q : Nat → Nat → Int32) : Prop := ((zin p0 0 ((r 40) - 1)) = 0 → (∀ r2 : Nat → Int32, r2 = va_up r 6 1 → (((r2 6) ≤ 0 → (vp_in p0 200 ∧ (vc (q 12 (Int32.toNatClampNeg p0)) ∧ P (q 12 (Int32.toNatClampNeg p0)) (r2, q)))) ∧ (¬ (r2 6) ≤ 0 → (vc 97 ∧ P 97 (r2, q)))))) ∧ (¬ (zin p0 0 ((r 40) - 1)) = 0 → (∀ r5 : Nat → Int32, r5 = va_up r 6 0 → (((r5 6) ≤ 0 → (vp_in p0 200 ∧ (vc (q 12 (Int32.toNatClampNeg p0)) ∧ P (q 12 (Int32.toNatClampNeg p0)) (r5, q)))) ∧ (¬ (r5 6) ≤ 0 → (vc 97 ∧ P 97 (r5, q))))))
set_option maxRecDepth 100000 in
set_option maxHeartbeats 4000000 in
theorem t_X11_paper {p : Program} {l : Launch} {e : Env} {s : State} {m : MethodId} {args : Array Value} {below : List Frame} {meth : Method} {c : Code} {D : va_G} {A : Nat → Prop} {T : Nat → ClassId} {m0 : Nat} {a : Nat → Nat} (C : GC p s m args meth c cX11_paper "FreightRaterModel" (ws_X11_paper) 2 D A (zty T)) (hr : meth.sig.returnType = (some .char)) (P : Int32 → RST → Prop) : ∀ (p0 : Int32) (r : Nat → Int32) (q : Nat → Nat → Int32), wp_X11_paper P p0 r q → GW p l e rm_X11_paper s m args below meth c D A 2 0 0 (MQ below (va_Qi P (RE D T m0 a A) A) args s 0 0 A) (RW m0 a T r q) 0 0 0 [(0, .ref m0), (1, .int p0)] [] := by
  have hw : ∀ {w : Cond}, w ∈ W0 → w.before args s = true := fun h => C.2.2.2.2.1 _ (List.mem_cons_of_mem _ h)
  intro p0 r q h
  unfold wp_X11_paper at h
  refine g_aload_n C dX11_paper_0 rfl 0 rfl ?_
  refine g_iload_n C dX11_paper_1 rfl 1 rfl ?_
  refine g_iconst (v := 0) C dX11_paper_2 (by decide) ?_
  refine g_aload_n C dX11_paper_3 rfl 0 rfl ?_
  refine gr_get C iwx_X11 40 (hw kw_1849) (by decide) rfl rfl dX11_paper_4 ?_
  refine g_iconst (v := 1) C dX11_paper_7 (by decide) ?_
  refine g_isub C dX11_paper_8 ?_
  refine gr_callSf C [.int p0, .int 0, .int ((r 40) - 1)] rfl (k_X11_in l D T m0 a p0 0 ((r 40) - 1) r q) (w0_S 3 C.2.2.2.2.1 kw_1944 kw_1945 kw_9 kw_1946 rfl rfl (by decide +kernel) ⟨by decide, by decide⟩) rfl (Nat.le_of_ble_eq_true rfl) (Nat.zero_le _) (Nat.zero_le _) dX11_paper_9 ?_
  refine g_if_eq (tgt := 19) C dX11_paper_12 (by decide) (fun z1 => ?_) (fun z1 => ?_)
  · replace h := h.1 z1
    refine g_iconst (v := 1) C dX11_paper_19 (by decide) ?_
    refine gr_put_6 C iwx_X11 (hw kw_1815) dX11_paper_20 ?_
    refine gr_nr (fun r2 er2 => ?_)
    replace h := h r2 er2
    refine g_aload_n C dX11_paper_23 rfl 0 rfl ?_
    refine gr_get C iwx_X11 6 (hw kw_1815) (by decide) rfl rfl dX11_paper_24 ?_
    refine g_if_le (tgt := 35) C dX11_paper_27 (by decide) (fun z3 => ?_) (fun z3 => ?_)
    · replace h := h.1 z3
      refine g_aload_n C dX11_paper_35 rfl 0 rfl ?_
      refine gr_get C iwx_X11 41 (hw kw_1850) (by decide) rfl rfl dX11_paper_36 ?_
      refine g_iload_n C dX11_paper_39 rfl 1 rfl ?_
      obtain ⟨g4, h⟩ := h
      refine gr_ald_12 C g4 dX11_paper_40 ?_
      exact gr_cret C hr h.1 dX11_paper_41 h.2
    · replace h := h.2 z3
      refine g_bipush (v := 97) C dX11_paper_30 (by decide) ?_
      refine g_goto (tgt := 41) C dX11_paper_32 (by decide) ?_
      exact gr_cret C hr h.1 dX11_paper_41 h.2
  · replace h := h.2 z1
    refine g_iconst (v := 0) C dX11_paper_15 (by decide) ?_
    refine g_goto (tgt := 20) C dX11_paper_16 (by decide) ?_
    refine gr_put_6 C iwx_X11 (hw kw_1815) dX11_paper_20 ?_
    refine gr_nr (fun r5 er5 => ?_)
    replace h := h r5 er5
    refine g_aload_n C dX11_paper_23 rfl 0 rfl ?_
    refine gr_get C iwx_X11 6 (hw kw_1815) (by decide) rfl rfl dX11_paper_24 ?_
    refine g_if_le (tgt := 35) C dX11_paper_27 (by decide) (fun z6 => ?_) (fun z6 => ?_)
    · replace h := h.1 z6
      refine g_aload_n C dX11_paper_35 rfl 0 rfl ?_
      refine gr_get C iwx_X11 41 (hw kw_1850) (by decide) rfl rfl dX11_paper_36 ?_
      refine g_iload_n C dX11_paper_39 rfl 1 rfl ?_
      obtain ⟨g7, h⟩ := h
      refine gr_ald_12 C g7 dX11_paper_40 ?_
      exact gr_cret C hr h.1 dX11_paper_41 h.2
    · replace h := h.2 z6
      refine g_bipush (v := 97) C dX11_paper_30 (by decide) ?_
      refine g_goto (tgt := 41) C dX11_paper_32 (by decide) ?_
      exact gr_cret C hr h.1 dX11_paper_41 h.2
theorem c_X11_paper (l : Launch) (D : va_G) (T : Nat → ClassId) (m0 : Nat) (a : Nat → Nat) (p0 : Int32) (r : Nat → Int32) (q : Nat → Nat → Int32) (P : Int32 → RST → Prop) (h : wp_X11_paper P p0 r q) : RMi l yX11_paper (ws_X11_paper) rm_X11_paper D T m0 a [.ref m0, .int p0] r q P := gr_meti (by decide) rfl rfl (Nat.le_of_ble_eq_true rfl) (fun p e s m args below meth c A C hr => t_X11_paper C hr P p0 r q h)
theorem k_X11_paper (l : Launch) (D : va_G) (T : Nat → ClassId) (m0 : Nat) (a : Nat → Nat) (p0 : Int32) (r : Nat → Int32) (q : Nat → Nat → Int32) (h : PW r q) : RMi l yX11_paper (ws_X11_paper) rm_X11_paper D T m0 a [.ref m0, .int p0] r q (fun v u => (u.2 = q ∧ kR r u.1 SC ∧ u.1 6 = ppC r p0 ∧ (ppC r p0 = 0 → v = q 12 (iv p0)))) := c_X11_paper l D T m0 a p0 r q _ <|
  (by
    obtain ⟨n, hn, e40, hvc⟩ := h
    unfold wp_X11_paper
    refine ⟨fun c => code_p (by decide) ⟨vc_n (n := 97) (by decide), rfl, kR.rf.up (by decide) _, ?_⟩, fun c => code_0 ?_⟩
    · unfold ppC; rw [if_pos c]; exact ⟨(by (try dsimp only); exact va_up_self _ _ _), fun z => absurd z (by decide)⟩
    · have c' := c
      rw [e40] at c'
      obtain ⟨j, hj, ej⟩ := zin_m (by omega) c'
      have ejj : iv p0 = j := by rw [ej]; exact nI_clamp (by omega)
      refine ⟨by rw [ej]; simp (disch := omega) only [li_2, li_3, li_4, li_5, li_6, li_7, li_8, li_9, li_10, li_12, li_14, li_20, li_26, li_30, li_31, li_36, li_38, li_47, li_48, li_50, li_57, li_58, li_80, li_98, li_99, li_100, li_102, li_104, li_105, li_108, li_109, li_110, li_114, li_115, li_119, li_122, li_137, li_146, li_147, li_148, li_149, li_150, li_200, li_255, li_256, li_274, li_510, li_512, li_640, li_999, li_1000, li_1024, li_3334, li_5000, li_9999, li_10000, li_23338, li_26672, li_30000, li_99999, li_150000, li_300000, pk_mul, nI_add, pk_sub, nI_clamp, nI_1, nI_p1, nI_a0, nI_0a, nI_m0, nI_m1, cl_0, cl_1, z01, z11, nI_leI, nI_ltI, nI_eq, nz_lt0, nz_le, nz_eq0, nz_pos, nz_le0, nz_eq1, nz_lt1, nz_ge1, nz_le1, nz_gt1, nz_vp, nz_vp0, nz_vp1, six_nI, vix_nI, bix_nI, pix_nI, fix_nI, gix_nI, rix_nI, zix_nI, pix_0, pix_1, bix_0, fix_0, fix_1, rix_1, true_and, and_true]; omega, by rw [show Int32.toNatClampNeg p0 = j from ejj]; exact hvc j hj, ap_ok (by unfold ppC; rw [if_neg c]) k06 (by (try dsimp only); exact va_up_self _ _ _) rfl⟩)
abbrev ws_X11_impossible : List Cond := Cond.code yX11_impossible cX11_impossible 1 (some .int) :: W0
abbrev rm_X11_impossible : Room := ({ frames := 1, cells := 0, slots := 0, locals := 21 } : Room)
def wp_X11_impossible (P : Int32 → RST → Prop)  (r : Nat → Int32) (q : Nat → Nat → Int32) : Prop := ∀ r1 : Nat → Int32, r1 = va_up r 6 0 → ((0 ≤ (r1 12) → (P (r1 12) (r1, q))) ∧ (¬ 0 ≤ (r1 12) → (∀ (v3 : Int32) (r4 : Nat → Int32) (q5 : Nat → Nat → Int32), (v3 = 0 ∧ r4 = va_up r1 6 1 ∧ q5 = q) → (P v3 (r4, q5)))))
set_option maxRecDepth 100000 in
set_option maxHeartbeats 4000000 in
theorem t_X11_impossible {p : Program} {l : Launch} {e : Env} {s : State} {m : MethodId} {args : Array Value} {below : List Frame} {meth : Method} {c : Code} {D : va_G} {A : Nat → Prop} {T : Nat → ClassId} {m0 : Nat} {a : Nat → Nat} (C : GC p s m args meth c cX11_impossible "FreightRaterModel" (ws_X11_impossible) 1 D A (zty T)) (hr : meth.sig.returnType = (some .int)) (P : Int32 → RST → Prop) : ∀  (r : Nat → Int32) (q : Nat → Nat → Int32), wp_X11_impossible P  r q → GW p l e rm_X11_impossible s m args below meth c D A 1 0 0 (MQ below (va_Qi P (RE D T m0 a A) A) args s 0 0 A) (RW m0 a T r q) 0 0 0 [(0, .ref m0)] [] := by
  have hw : ∀ {w : Cond}, w ∈ W0 → w.before args s = true := fun h => C.2.2.2.2.1 _ (List.mem_cons_of_mem _ h)
  intro  r q h
  unfold wp_X11_impossible at h
  refine g_aload_n C dX11_impossible_0 rfl 0 rfl ?_
  refine g_iconst (v := 0) C dX11_impossible_1 (by decide) ?_
  refine gr_put_6 C iwx_X11 (hw kw_1815) dX11_impossible_2 ?_
  refine gr_nr (fun r1 er1 => ?_)
  replace h := h r1 er1
  refine g_aload_n C dX11_impossible_5 rfl 0 rfl ?_
  refine gr_get C iwx_X11 12 (hw kw_1821) (by decide) rfl rfl dX11_impossible_6 ?_
  refine g_if_ge (tgt := 20) C dX11_impossible_9 (by decide) (fun z2 => ?_) (fun z2 => ?_)
  · replace h := h.1 z2
    refine g_aload_n C dX11_impossible_20 rfl 0 rfl ?_
    refine gr_get C iwx_X11 12 (hw kw_1821) (by decide) rfl rfl dX11_impossible_21 ?_
    exact gr_iret C hr dX11_impossible_24 h
  · replace h := h.2 z2
    refine g_aload_n C dX11_impossible_12 rfl 0 rfl ?_
    refine g_iconst (v := 1) C dX11_impossible_13 (by decide) ?_
    refine gr_calliV C [.int 1] rfl (k_X11_refuse l D T m0 a 1 r1 q) (w0_V 1 C.2.2.2.2.1 kw_1950 kw_1952 ks_50 kw_9 kw_1953 rfl rfl (by decide +kernel) ⟨by decide, by decide⟩) rfl (Nat.le_of_ble_eq_true rfl) (Nat.zero_le _) (Nat.zero_le _) dX11_impossible_14 (fun v3 r4 q5 hp => ?_)
    replace h := h v3 r4 q5 hp
    refine g_goto (tgt := 24) C dX11_impossible_17 (by decide) ?_
    exact gr_iret C hr dX11_impossible_24 h
theorem c_X11_impossible (l : Launch) (D : va_G) (T : Nat → ClassId) (m0 : Nat) (a : Nat → Nat)  (r : Nat → Int32) (q : Nat → Nat → Int32) (P : Int32 → RST → Prop) (h : wp_X11_impossible P  r q) : RMi l yX11_impossible (ws_X11_impossible) rm_X11_impossible D T m0 a [.ref m0] r q P := gr_meti (by decide) rfl rfl (Nat.le_of_ble_eq_true rfl) (fun p e s m args below meth c A C hr => t_X11_impossible C hr P  r q h)
theorem k_X11_impossible (l : Launch) (D : va_G) (T : Nat → ClassId) (m0 : Nat) (a : Nat → Nat)  (r : Nat → Int32) (q : Nat → Nat → Int32) : RMi l yX11_impossible (ws_X11_impossible) rm_X11_impossible D T m0 a [.ref m0] r q (fun v u => (u.2 = q ∧ kR r u.1 SC ∧ u.1 6 = imC r ∧ (imC r = 0 → v = r 12))) := c_X11_impossible l D T m0 a  r q _ <|
  (by
    unfold wp_X11_impossible
    intro r1 e1
    have e12 : r1 12 = r 12 := by rw [e1, va_up_ne _ _ (by decide)]
    rw [e12]
    refine ⟨fun c => ap_ok (by unfold imC; rw [if_pos c]) (by rw [e1]; exact k06) (by dsimp only; rw [e1, va_up_self]) rfl, fun c v3 r4 q5 hh => ?_⟩
    obtain ⟨a1, a2, a3⟩ := hh
    subst a3
    unfold imC
    rw [if_neg c]
    exact ⟨rfl, by rw [a2, e1]; exact k06.up (by decide) _, by dsimp only; rw [a2, va_up_self], fun z => absurd z (by decide)⟩)
abbrev ws_X11_feed : List Cond := Cond.code yX11_feed cX11_feed 2 (some .int) :: W0
abbrev rm_X11_feed : Room := ({ frames := 1, cells := 0, slots := 0, locals := 21 } : Room)
def wp_X11_feed (P : Int32 → RST → Prop) (p0 : Int32) (r : Nat → Int32) (q : Nat → Nat → Int32) : Prop := ∀ r1 : Nat → Int32, r1 = va_up r 6 0 → ((¬ (r1 8) = 80 → (vp_in (r1 8) 80 ∧ (∀ q4 : Nat → Nat → Int32, q4 = va_up q 4 (upd (q 4) (Int32.toNatClampNeg (r1 8)) p0) → (∀ r5 : Nat → Int32, r5 = va_up r1 8 ((r1 8) + 1) → (P (r5 8) (r5, q4)))))) ∧ ((r1 8) = 80 → (∀ (v6 : Int32) (r7 : Nat → Int32) (q8 : Nat → Nat → Int32), (v6 = 0 ∧ r7 = va_up r1 6 1 ∧ q8 = q) → (P v6 (r7, q8)))))
set_option maxRecDepth 100000 in
set_option maxHeartbeats 4000000 in
theorem t_X11_feed {p : Program} {l : Launch} {e : Env} {s : State} {m : MethodId} {args : Array Value} {below : List Frame} {meth : Method} {c : Code} {D : va_G} {A : Nat → Prop} {T : Nat → ClassId} {m0 : Nat} {a : Nat → Nat} (C : GC p s m args meth c cX11_feed "FreightRaterModel" (ws_X11_feed) 2 D A (zty T)) (hr : meth.sig.returnType = (some .int)) (P : Int32 → RST → Prop) : ∀ (p0 : Int32) (r : Nat → Int32) (q : Nat → Nat → Int32), wp_X11_feed P p0 r q → GW p l e rm_X11_feed s m args below meth c D A 2 0 0 (MQ below (va_Qi P (RE D T m0 a A) A) args s 0 0 A) (RW m0 a T r q) 0 0 0 [(0, .ref m0), (1, .int p0)] [] := by
  have hw : ∀ {w : Cond}, w ∈ W0 → w.before args s = true := fun h => C.2.2.2.2.1 _ (List.mem_cons_of_mem _ h)
  intro p0 r q h
  unfold wp_X11_feed at h
  refine g_aload_n C dX11_feed_0 rfl 0 rfl ?_
  refine g_iconst (v := 0) C dX11_feed_1 (by decide) ?_
  refine gr_put_6 C iwx_X11 (hw kw_1815) dX11_feed_2 ?_
  refine gr_nr (fun r1 er1 => ?_)
  replace h := h r1 er1
  refine g_aload_n C dX11_feed_5 rfl 0 rfl ?_
  refine gr_get C iwx_X11 8 (hw kw_1817) (by decide) rfl rfl dX11_feed_6 ?_
  refine g_bipush (v := 80) C dX11_feed_9 (by decide) ?_
  refine g_icmp_ne (tgt := 20) C dX11_feed_11 (by decide) (fun z2 => ?_) (fun z2 => ?_)
  · replace h := h.1 z2
    refine g_aload_n C dX11_feed_20 rfl 0 rfl ?_
    refine gr_get C iwx_X11 9 (hw kw_1818) (by decide) rfl rfl dX11_feed_21 ?_
    refine g_aload_n C dX11_feed_24 rfl 0 rfl ?_
    refine gr_get C iwx_X11 8 (hw kw_1817) (by decide) rfl rfl dX11_feed_25 ?_
    refine g_iload_n C dX11_feed_28 rfl 1 rfl ?_
    obtain ⟨g3, h⟩ := h
    refine gr_ast_4 C g3 dX11_feed_29 ?_
    refine gr_nq (fun q4 eq4 => ?_)
    replace h := h q4 eq4
    refine g_aload_n C dX11_feed_30 rfl 0 rfl ?_
    refine g_dup C dX11_feed_31 rfl ?_
    refine gr_get C iwx_X11 8 (hw kw_1817) (by decide) rfl rfl dX11_feed_32 ?_
    refine g_iconst (v := 1) C dX11_feed_35 (by decide) ?_
    refine g_iadd C dX11_feed_36 ?_
    refine gr_put_8 C iwx_X11 (hw kw_1817) dX11_feed_37 ?_
    refine gr_nr (fun r5 er5 => ?_)
    replace h := h r5 er5
    refine g_aload_n C dX11_feed_40 rfl 0 rfl ?_
    refine gr_get C iwx_X11 8 (hw kw_1817) (by decide) rfl rfl dX11_feed_41 ?_
    exact gr_iret C hr dX11_feed_44 h
  · replace h := h.2 z2
    refine g_aload_n C dX11_feed_14 rfl 0 rfl ?_
    refine g_iconst (v := 1) C dX11_feed_15 (by decide) ?_
    refine gr_calliV C [.int 1] rfl (k_X11_refuse l D T m0 a 1 r1 q) (w0_V 1 C.2.2.2.2.1 kw_1950 kw_1952 ks_50 kw_9 kw_1953 rfl rfl (by decide +kernel) ⟨by decide, by decide⟩) rfl (Nat.le_of_ble_eq_true rfl) (Nat.zero_le _) (Nat.zero_le _) dX11_feed_16 (fun v6 r7 q8 hp => ?_)
    replace h := h v6 r7 q8 hp
    exact gr_iret C hr dX11_feed_19 h
theorem c_X11_feed (l : Launch) (D : va_G) (T : Nat → ClassId) (m0 : Nat) (a : Nat → Nat) (p0 : Int32) (r : Nat → Int32) (q : Nat → Nat → Int32) (P : Int32 → RST → Prop) (h : wp_X11_feed P p0 r q) : RMi l yX11_feed (ws_X11_feed) rm_X11_feed D T m0 a [.ref m0, .int p0] r q P := gr_meti (by decide) rfl rfl (Nat.le_of_ble_eq_true rfl) (fun p e s m args below meth c A C hr => t_X11_feed C hr P p0 r q h)
theorem k_X11_feed (l : Launch) (D : va_G) (T : Nat → ClassId) (m0 : Nat) (a : Nat → Nat) (p0 : Int32) (r : Nat → Int32) (q : Nat → Nat → Int32) (h : FW r) : RMi l yX11_feed (ws_X11_feed) rm_X11_feed D T m0 a [.ref m0, .int p0] r q (fun v u => (kR r u.1 (8 :: SC) ∧ kQ q u.2 [4] ∧ u.1 6 = (if r 8 = 80 then 1 else 0) ∧ u.1 8 = (if r 8 = 80 then r 8 else r 8 + 1) ∧ u.2 4 = (if r 8 = 80 then q 4 else upd (q 4) (iv (r 8)) p0) ∧ (u.1 6 = 0 → v = u.1 8))) := c_X11_feed l D T m0 a p0 r q _ <|
  (by
    obtain ⟨n, hn, e8⟩ := h
    unfold wp_X11_feed
    intro r1 e1
    have e18 : r1 8 = r 8 := by rw [e1, va_up_ne _ _ (by decide)]
    have k1 : kR r r1 (8 :: SC) := by rw [e1]; exact kR.rf.up (by decide) _
    rw [e18]
    refine ⟨fun c => ?_, fun c v6 r7 q8 hh => ?_⟩
    · have hn2 : n < 80 := by
        rcases Nat.lt_or_ge n 80 with z | z
        · exact z
        · exact absurd (by rw [e8, show n = 80 by omega]; rfl) c
      refine ⟨by rw [e8]; simp (disch := omega) only [li_2, li_3, li_4, li_5, li_6, li_7, li_8, li_9, li_10, li_12, li_14, li_20, li_26, li_30, li_31, li_36, li_38, li_47, li_48, li_50, li_57, li_58, li_80, li_98, li_99, li_100, li_102, li_104, li_105, li_108, li_109, li_110, li_114, li_115, li_119, li_122, li_137, li_146, li_147, li_148, li_149, li_150, li_200, li_255, li_256, li_274, li_510, li_512, li_640, li_999, li_1000, li_1024, li_3334, li_5000, li_9999, li_10000, li_23338, li_26672, li_30000, li_99999, li_150000, li_300000, pk_mul, nI_add, pk_sub, nI_clamp, nI_1, nI_p1, nI_a0, nI_0a, nI_m0, nI_m1, cl_0, cl_1, z01, z11, nI_leI, nI_ltI, nI_eq, nz_lt0, nz_le, nz_eq0, nz_pos, nz_le0, nz_eq1, nz_lt1, nz_ge1, nz_le1, nz_gt1, nz_vp, nz_vp0, nz_vp1, six_nI, vix_nI, bix_nI, pix_nI, fix_nI, gix_nI, rix_nI, zix_nI, pix_0, pix_1, bix_0, fix_0, fix_1, rix_1, true_and, and_true]; omega, fun q4 e4 r5 e5 => ?_⟩
      rw [if_neg c, if_neg c, if_neg c]
      have e56 : r5 6 = 0 := by rw [e5, va_up_ne _ _ (by decide), e1, va_up_self]
      have e58 : r5 8 = r 8 + 1 := by rw [e5, va_up_self]
      exact ⟨by rw [e5]; exact k1.up (by decide) _, by rw [e4]; exact kQ.rf.up (by decide) _, e56, e58, by dsimp only; rw [e4, va_up_self], fun _ => rfl⟩
    · obtain ⟨a1, a2, a3⟩ := hh
      subst a3
      rw [if_pos c, if_pos c, if_pos c]
      have a6 : r7 6 = 1 := by rw [a2, va_up_self]
      exact ⟨by rw [a2]; exact k1.up (by decide) _, kQ.rf, a6, by dsimp only; rw [a2, va_up_ne _ _ (by decide), e18], rfl, fun z => absurd (a6.symm.trans z) (by decide)⟩)

end S_RAS
