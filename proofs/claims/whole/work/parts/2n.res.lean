section S_RES
abbrev ws_X11_takes : List Cond := Cond.code yX11_takes cX11_takes 3 (some .boolean) :: W0
abbrev rm_X11_takes : Room := ({ frames := 1, cells := 0, slots := 0, locals := 20 } : Room)
def wp_X11_takes (P : Int32 → RST → Prop) (p0 : Int32) (r : Nat → Int32) (q : Nat → Nat → Int32) : Prop := (¬ (r 11) = 0 → (∀ r2 : Nat → Int32, r2 = va_up r 10 ((r 10) + 0) → (P 0 (r2, q)))) ∧ ((r 11) = 0 → ((r 10 < r 8 → vp_in (r 10) 80) ∧ ((¬ (sgnF r q) = p0 → (∀ r5 : Nat → Int32, r5 = va_up r 10 ((r 10) + 0) → (P 0 (r5, q)))) ∧ ((sgnF r q) = p0 → (∀ r6 : Nat → Int32, r6 = va_up r 10 ((r 10) + 1) → (P 1 (r6, q)))))))
set_option maxRecDepth 100000 in
set_option maxHeartbeats 4000000 in
theorem t_X11_takes {p : Program} {l : Launch} {e : Env} {s : State} {m : MethodId} {args : Array Value} {below : List Frame} {meth : Method} {c : Code} {D : va_G} {A : Nat → Prop} {T : Nat → ClassId} {m0 : Nat} {a : Nat → Nat} (C : GC p s m args meth c cX11_takes "FreightRaterModel" (ws_X11_takes) 3 D A (zty T)) (hr : meth.sig.returnType = (some .boolean)) (P : Int32 → RST → Prop) : ∀ (p0 : Int32) (r : Nat → Int32) (q : Nat → Nat → Int32), wp_X11_takes P p0 r q → GW p l e rm_X11_takes s m args below meth c D A 3 0 0 (MQ below (va_Qi P (RE D T m0 a A) A) args s 0 0 A) (RW m0 a T r q) 0 0 0 [(0, .ref m0), (1, .int p0)] [] := by
  have hw : ∀ {w : Cond}, w ∈ W0 → w.before args s = true := fun h => C.2.2.2.2.1 _ (List.mem_cons_of_mem _ h)
  intro p0 r q h
  unfold wp_X11_takes at h
  refine g_aload_n C dX11_takes_0 rfl 0 rfl ?_
  refine gr_get C iwx_X11 11 (hw kw_1820) (by decide) rfl rfl dX11_takes_1 ?_
  refine g_if_ne (tgt := 19) C dX11_takes_4 (by decide) (fun z1 => ?_) (fun z1 => ?_)
  · replace h := h.1 z1
    refine g_iconst (v := 0) C dX11_takes_19 (by decide) ?_
    refine g_istore_n (lv' := [(2, .int 0), (0, .ref m0), (1, .int p0)]) C dX11_takes_20 rfl (by decide) rfl ?_
    refine g_aload_n C dX11_takes_21 rfl 1 rfl ?_
    refine g_dup C dX11_takes_22 rfl ?_
    refine gr_get C iwx_X11 10 (hw kw_1819) (by decide) rfl rfl dX11_takes_23 ?_
    refine g_iload_n C dX11_takes_26 rfl 0 rfl ?_
    refine g_if_eq (tgt := 34) C dX11_takes_27 (by decide) (fun _ => ?_) (fun z => absurd z (by decide))
    refine g_iconst (v := 0) C dX11_takes_34 (by decide) ?_
    refine g_iadd C dX11_takes_35 ?_
    refine gr_put_10 C iwx_X11 (hw kw_1819) dX11_takes_36 ?_
    refine gr_nr (fun r2 er2 => ?_)
    replace h := h r2 er2
    refine g_iload_n C dX11_takes_39 rfl 0 rfl ?_
    exact gr_zret C hr vz0 dX11_takes_40 h
  · replace h := h.2 z1
    refine g_aload_n C dX11_takes_7 rfl 0 rfl ?_
    obtain ⟨g3, h⟩ := h
    refine gr_callVf C [] rfl (k_X11_sign l D T m0 a  r q g3) (w0_V 0 C.2.2.2.2.1 kw_2038 kw_2040 ks_62 kw_9 kw_2041 rfl rfl (by decide +kernel) ⟨by decide, by decide⟩) rfl (Nat.le_of_ble_eq_true rfl) (Nat.zero_le _) (Nat.zero_le _) dX11_takes_8 ?_
    refine g_iload_n C dX11_takes_11 rfl 1 rfl ?_
    refine g_icmp_ne (tgt := 19) C dX11_takes_12 (by decide) (fun z4 => ?_) (fun z4 => ?_)
    · replace h := h.1 z4
      refine g_iconst (v := 0) C dX11_takes_19 (by decide) ?_
      refine g_istore_n (lv' := [(2, .int 0), (0, .ref m0), (1, .int p0)]) C dX11_takes_20 rfl (by decide) rfl ?_
      refine g_aload_n C dX11_takes_21 rfl 1 rfl ?_
      refine g_dup C dX11_takes_22 rfl ?_
      refine gr_get C iwx_X11 10 (hw kw_1819) (by decide) rfl rfl dX11_takes_23 ?_
      refine g_iload_n C dX11_takes_26 rfl 0 rfl ?_
      refine g_if_eq (tgt := 34) C dX11_takes_27 (by decide) (fun _ => ?_) (fun z => absurd z (by decide))
      refine g_iconst (v := 0) C dX11_takes_34 (by decide) ?_
      refine g_iadd C dX11_takes_35 ?_
      refine gr_put_10 C iwx_X11 (hw kw_1819) dX11_takes_36 ?_
      refine gr_nr (fun r5 er5 => ?_)
      replace h := h r5 er5
      refine g_iload_n C dX11_takes_39 rfl 0 rfl ?_
      exact gr_zret C hr vz0 dX11_takes_40 h
    · replace h := h.2 z4
      refine g_iconst (v := 1) C dX11_takes_15 (by decide) ?_
      refine g_goto (tgt := 20) C dX11_takes_16 (by decide) ?_
      refine g_istore_n (lv' := [(2, .int 1), (0, .ref m0), (1, .int p0)]) C dX11_takes_20 rfl (by decide) rfl ?_
      refine g_aload_n C dX11_takes_21 rfl 1 rfl ?_
      refine g_dup C dX11_takes_22 rfl ?_
      refine gr_get C iwx_X11 10 (hw kw_1819) (by decide) rfl rfl dX11_takes_23 ?_
      refine g_iload_n C dX11_takes_26 rfl 0 rfl ?_
      refine g_if_eq (tgt := 34) C dX11_takes_27 (by decide) (fun z => absurd z (by decide)) (fun _ => ?_)
      refine g_iconst (v := 1) C dX11_takes_30 (by decide) ?_
      refine g_goto (tgt := 35) C dX11_takes_31 (by decide) ?_
      refine g_iadd C dX11_takes_35 ?_
      refine gr_put_10 C iwx_X11 (hw kw_1819) dX11_takes_36 ?_
      refine gr_nr (fun r6 er6 => ?_)
      replace h := h r6 er6
      refine g_iload_n C dX11_takes_39 rfl 0 rfl ?_
      exact gr_zret C hr vz1 dX11_takes_40 h
theorem c_X11_takes (l : Launch) (D : va_G) (T : Nat → ClassId) (m0 : Nat) (a : Nat → Nat) (p0 : Int32) (r : Nat → Int32) (q : Nat → Nat → Int32) (P : Int32 → RST → Prop) (h : wp_X11_takes P p0 r q) : RMi l yX11_takes (ws_X11_takes) rm_X11_takes D T m0 a [.ref m0, .int p0] r q P := gr_meti (by decide) rfl rfl (Nat.le_of_ble_eq_true rfl) (fun p e s m args below meth c A C hr => t_X11_takes C hr P p0 r q h)
theorem k_X11_takes (l : Launch) (D : va_G) (T : Nat → ClassId) (m0 : Nat) (a : Nat → Nat) (p0 : Int32) (r : Nat → Int32) (q : Nat → Nat → Int32) (h : psO r ∧ ¬ p0 = (-1 : Int32)) : RMi l yX11_takes (ws_X11_takes) rm_X11_takes D T m0 a [.ref m0, .int p0] r q (fun v u => (v = b2i (tkB (q 4) (iv (r 8)) (pσ r) p0) ∧ u.2 = q ∧ kR r u.1 [10] ∧ psO u.1 ∧ pσ u.1 = tkS (q 4) (iv (r 8)) (pσ r) p0)) := c_X11_takes l D T m0 a p0 r q _ <|
  (by
    obtain ⟨⟨⟨n, hn, e8⟩, ⟨h, hh, e10⟩, hb⟩, hc⟩ := h
    have en : iv (r 8) = n := by rw [e8]; exact nI_clamp (by omega)
    rw [en] at hh
    have eh : (pσ r).1 = h := by unfold pσ; rw [e10]; exact nI_clamp (by omega)
    unfold wp_X11_takes
    have nochg : ∀ r2 : Nat → Int32, r2 = va_up r 10 ((r 10) + 0) → tkB (q 4) n (pσ r) p0 = false → ((0 : Int32) = b2i (tkB (q 4) n (pσ r) p0) ∧ q = q ∧ kR r r2 [10] ∧ psO r2 ∧ pσ r2 = tkS (q 4) n (pσ r) p0) := by
      intro r2 e2 ht
      have e2' : r2 = r := by rw [e2, Int32.add_zero, vu_id]
      subst e2'
      unfold tkS
      rw [ht]
      exact ⟨rfl, rfl, kR.rf, ⟨⟨n, hn, e8⟩, ⟨h, by rw [en]; exact hh, e10⟩, hb⟩, rfl⟩
    rw [en]
    refine ⟨fun c r2 e2 => nochg r2 e2 ?_, fun c => ⟨fun z => by rw [e10]; rw [e10, e8, nI_ltI (by omega) (by omega)] at z; simp (disch := omega) only [li_2, li_3, li_4, li_5, li_6, li_7, li_8, li_9, li_10, li_12, li_14, li_20, li_26, li_30, li_31, li_36, li_38, li_47, li_48, li_50, li_57, li_58, li_80, li_98, li_99, li_100, li_102, li_104, li_105, li_108, li_109, li_110, li_114, li_115, li_119, li_122, li_137, li_146, li_147, li_148, li_149, li_150, li_200, li_255, li_256, li_274, li_510, li_512, li_640, li_999, li_1000, li_1024, li_3334, li_5000, li_9999, li_10000, li_23338, li_26672, li_30000, li_99999, li_150000, li_300000, pk_mul, nI_add, pk_sub, nI_clamp, nI_1, nI_p1, nI_a0, nI_0a, nI_m0, nI_m1, cl_0, cl_1, z01, z11, nI_leI, nI_ltI, nI_eq, nz_lt0, nz_le, nz_eq0, nz_pos, nz_le0, nz_eq1, nz_lt1, nz_ge1, nz_le1, nz_gt1, nz_vp, nz_vp0, nz_vp1, six_nI, vix_nI, bix_nI, pix_nI, fix_nI, gix_nI, rix_nI, zix_nI, pix_0, pix_1, bix_0, fix_0, fix_1, rix_1, true_and, and_true]; omega, fun c2 r2 e2 => nochg r2 e2 ?_, fun c2 r6 e6 => ?_⟩⟩
    · unfold tkB
      have : (pσ r).2 = true := by
        cases hs : (pσ r).2 with
        | true => rfl
        | false => exact absurd ((pb_of hb).mpr hs) c
      rw [this]; rfl
    · unfold tkB
      rw [show sg (q 4) n (pσ r) = sgnF r q by unfold sg sgnF; rw [eh, e10, e8]; simp (disch := omega) only [nI_ltI, nI_clamp]]
      simp [c2]
    · have hsg : sg (q 4) n (pσ r) = p0 := by
        rw [← c2]; unfold sg sgnF; rw [eh, e10, e8]; simp (disch := omega) only [nI_ltI, nI_clamp]
      have hlt := sg_in hc hsg
      rw [eh] at hlt
      have ht : tkB (q 4) n (pσ r) p0 = true := by
        unfold tkB
        rw [(pb_of hb).mp c, hsg]
        simp
      rw [e10, nI_1, ← eh] at e6
      obtain ⟨g1, g2⟩ := psO_10 ⟨⟨n, hn, e8⟩, ⟨h, by rw [en]; exact hh, e10⟩, hb⟩ (by rw [eh, en]; exact hlt) e6
      unfold tkS
      rw [ht, if_pos rfl]
      exact ⟨rfl, rfl, by rw [e6]; exact kR.rf.up (by decide) _, g1, g2⟩)
abbrev ws_X11_need : List Cond := Cond.code yX11_need cX11_need 2 none :: W0
abbrev rm_X11_need : Room := ({ frames := 2, cells := 0, slots := 0, locals := 42 } : Room)
def wp_X11_need (P : RST → Prop) (p0 : Int32) (r : Nat → Int32) (q : Nat → Nat → Int32) : Prop := (psO r ∧ ¬ p0 = (-1 : Int32)) ∧ (∀ (v1 : Int32) (r2 : Nat → Int32) (q3 : Nat → Nat → Int32), (v1 = b2i (tkB (q 4) (iv (r 8)) (pσ r) p0) ∧ q3 = q ∧ kR r r2 [10] ∧ psO r2 ∧ pσ r2 = tkS (q 4) (iv (r 8)) (pσ r) p0) → ((¬ v1 = 0 → (∀ r6 : Nat → Int32, r6 = va_up r2 11 0 → (P (r6, q3)))) ∧ (v1 = 0 → (∀ r7 : Nat → Int32, r7 = va_up r2 11 1 → (P (r7, q3))))))
set_option maxRecDepth 100000 in
set_option maxHeartbeats 4000000 in
theorem t_X11_need {p : Program} {l : Launch} {e : Env} {s : State} {m : MethodId} {args : Array Value} {below : List Frame} {meth : Method} {c : Code} {D : va_G} {A : Nat → Prop} {T : Nat → ClassId} {m0 : Nat} {a : Nat → Nat} (C : GC p s m args meth c cX11_need "FreightRaterModel" (ws_X11_need) 2 D A (zty T)) (hr : meth.sig.returnType = none) (P : RST → Prop) : ∀ (p0 : Int32) (r : Nat → Int32) (q : Nat → Nat → Int32), wp_X11_need P p0 r q → GW p l e rm_X11_need s m args below meth c D A 2 0 0 (MQ below (va_Qv P (RE D T m0 a A) A) args s 0 0 A) (RW m0 a T r q) 0 0 0 [(0, .ref m0), (1, .int p0)] [] := by
  have hw : ∀ {w : Cond}, w ∈ W0 → w.before args s = true := fun h => C.2.2.2.2.1 _ (List.mem_cons_of_mem _ h)
  intro p0 r q h
  unfold wp_X11_need at h
  refine g_aload_n C dX11_need_0 rfl 0 rfl ?_
  refine g_aload_n C dX11_need_1 rfl 0 rfl ?_
  refine g_iload_n C dX11_need_2 rfl 1 rfl ?_
  obtain ⟨g4, h⟩ := h
  refine gr_calliV C [.int p0] rfl (k_X11_takes l D T m0 a p0 r q g4) (w0_V 1 C.2.2.2.2.1 kw_2054 kw_2056 ks_66 kw_9 kw_2057 rfl rfl (by decide +kernel) ⟨by decide, by decide⟩) rfl (Nat.le_of_ble_eq_true rfl) (Nat.zero_le _) (Nat.zero_le _) dX11_need_3 (fun v1 r2 q3 hp => ?_)
  replace h := h v1 r2 q3 hp
  refine g_if_ne (tgt := 13) C dX11_need_6 (by decide) (fun z5 => ?_) (fun z5 => ?_)
  · replace h := h.1 z5
    refine g_iconst (v := 0) C dX11_need_13 (by decide) ?_
    refine gr_put_11 C iwx_X11 vz0 (hw kw_1820) dX11_need_14 ?_
    refine gr_nr (fun r6 er6 => ?_)
    replace h := h r6 er6
    exact gr_vret C hr dX11_need_17 h
  · replace h := h.2 z5
    refine g_iconst (v := 1) C dX11_need_9 (by decide) ?_
    refine g_goto (tgt := 14) C dX11_need_10 (by decide) ?_
    refine gr_put_11 C iwx_X11 vz1 (hw kw_1820) dX11_need_14 ?_
    refine gr_nr (fun r7 er7 => ?_)
    replace h := h r7 er7
    exact gr_vret C hr dX11_need_17 h
theorem c_X11_need (l : Launch) (D : va_G) (T : Nat → ClassId) (m0 : Nat) (a : Nat → Nat) (p0 : Int32) (r : Nat → Int32) (q : Nat → Nat → Int32) (P : RST → Prop) (h : wp_X11_need P p0 r q) : RMv l yX11_need (ws_X11_need) rm_X11_need D T m0 a [.ref m0, .int p0] r q P := gr_metv (by decide) rfl rfl (Nat.le_of_ble_eq_true rfl) (fun p e s m args below meth c A C hr => t_X11_need C hr P p0 r q h)
theorem k_X11_need (l : Launch) (D : va_G) (T : Nat → ClassId) (m0 : Nat) (a : Nat → Nat) (p0 : Int32) (r : Nat → Int32) (q : Nat → Nat → Int32) (h : psO r ∧ ¬ p0 = (-1 : Int32)) : RMv l yX11_need (ws_X11_need) rm_X11_need D T m0 a [.ref m0, .int p0] r q (fun u => (u.2 = q ∧ kR r u.1 [10, 11] ∧ psO u.1 ∧ pσ u.1 = ndS (q 4) (iv (r 8)) (pσ r) p0)) := c_X11_need l D T m0 a p0 r q _ <|
  (by
    unfold wp_X11_need
    refine ⟨h, fun v1 r2 q3 hh => ?_⟩
    obtain ⟨a1, a2, a3, a4, a5⟩ := hh
    subst a2
    refine ⟨fun c r5 e5 => ?_, fun c r5 e5 => ?_⟩
    · obtain ⟨b1, b2⟩ := psO_11 a4 vz0 e5
      refine ⟨rfl, by rw [e5]; exact (a3.mn (by decide)).up (by decide) _, b1, ?_⟩
      rw [b2, a5]
      unfold ndS
      have : tkB (q3 4) (iv (r 8)) (pσ r) p0 = true := by
        cases ht : tkB (q3 4) (iv (r 8)) (pσ r) p0 with
        | true => rfl
        | false => rw [ht] at a1; exact absurd a1 c
      rw [this]; rfl
    · obtain ⟨b1, b2⟩ := psO_11 a4 vz1 e5
      refine ⟨rfl, by rw [e5]; exact (a3.mn (by decide)).up (by decide) _, b1, ?_⟩
      rw [b2, a5]
      unfold ndS
      have : tkB (q3 4) (iv (r 8)) (pσ r) p0 = false := by
        rw [a1] at c; exact (b2i_0 _).mp c
      rw [this]; rfl)
abbrev ws_X11_digit : List Cond := Cond.code yX11_digit cX11_digit 3 (some .int) :: W0
abbrev rm_X11_digit : Room := ({ frames := 1, cells := 0, slots := 0, locals := 22 } : Room)
def wp_X11_digit (P : Int32 → RST → Prop) (p0 : Int32) (p1 : Int32) (r : Nat → Int32) (q : Nat → Nat → Int32) : Prop := (¬ (r 11) = 0 → (∀ r2 : Nat → Int32, r2 = va_up r 11 1 → (P 0 (r2, q)))) ∧ ((r 11) = 0 → ((r 10 < r 8 → vp_in (r 10) 80) ∧ ((¬ (zin (sgnF r q) (48 + p0) (48 + p1)) = 0 → (∀ r5 : Nat → Int32, r5 = va_up r 10 ((r 10) + 1) → (vp_in ((r5 10) - 1) 80 ∧ (P ((q 4 (Int32.toNatClampNeg ((r5 10) - 1))) - 48) (r5, q))))) ∧ ((zin (sgnF r q) (48 + p0) (48 + p1)) = 0 → (∀ r7 : Nat → Int32, r7 = va_up r 11 1 → (P 0 (r7, q)))))))
set_option maxRecDepth 100000 in
set_option maxHeartbeats 4000000 in
theorem t_X11_digit {p : Program} {l : Launch} {e : Env} {s : State} {m : MethodId} {args : Array Value} {below : List Frame} {meth : Method} {c : Code} {D : va_G} {A : Nat → Prop} {T : Nat → ClassId} {m0 : Nat} {a : Nat → Nat} (C : GC p s m args meth c cX11_digit "FreightRaterModel" (ws_X11_digit) 3 D A (zty T)) (hr : meth.sig.returnType = (some .int)) (P : Int32 → RST → Prop) : ∀ (p0 : Int32) (p1 : Int32) (r : Nat → Int32) (q : Nat → Nat → Int32), wp_X11_digit P p0 p1 r q → GW p l e rm_X11_digit s m args below meth c D A 3 0 0 (MQ below (va_Qi P (RE D T m0 a A) A) args s 0 0 A) (RW m0 a T r q) 0 0 0 [(0, .ref m0), (1, .int p0), (2, .int p1)] [] := by
  have hw : ∀ {w : Cond}, w ∈ W0 → w.before args s = true := fun h => C.2.2.2.2.1 _ (List.mem_cons_of_mem _ h)
  intro p0 p1 r q h
  unfold wp_X11_digit at h
  refine g_aload_n C dX11_digit_0 rfl 0 rfl ?_
  refine gr_get C iwx_X11 11 (hw kw_1820) (by decide) rfl rfl dX11_digit_1 ?_
  refine g_if_ne (tgt := 25) C dX11_digit_4 (by decide) (fun z1 => ?_) (fun z1 => ?_)
  · replace h := h.1 z1
    refine g_aload_n C dX11_digit_25 rfl 0 rfl ?_
    refine g_iconst (v := 1) C dX11_digit_26 (by decide) ?_
    refine gr_put_11 C iwx_X11 vz1 (hw kw_1820) dX11_digit_27 ?_
    refine gr_nr (fun r2 er2 => ?_)
    replace h := h r2 er2
    refine g_iconst (v := 0) C dX11_digit_30 (by decide) ?_
    exact gr_iret C hr dX11_digit_31 h
  · replace h := h.2 z1
    refine g_aload_n C dX11_digit_7 rfl 0 rfl ?_
    obtain ⟨g3, h⟩ := h
    refine gr_callVf C [] rfl (k_X11_sign l D T m0 a  r q g3) (w0_V 0 C.2.2.2.2.1 kw_2038 kw_2040 ks_62 kw_9 kw_2041 rfl rfl (by decide +kernel) ⟨by decide, by decide⟩) rfl (Nat.le_of_ble_eq_true rfl) (Nat.zero_le _) (Nat.zero_le _) dX11_digit_8 ?_
    refine g_bipush (v := 48) C dX11_digit_11 (by decide) ?_
    refine g_iload_n C dX11_digit_13 rfl 1 rfl ?_
    refine g_iadd C dX11_digit_14 ?_
    refine g_bipush (v := 48) C dX11_digit_15 (by decide) ?_
    refine g_iload_n C dX11_digit_17 rfl 2 rfl ?_
    refine g_iadd C dX11_digit_18 ?_
    refine gr_callSf C [.int (sgnF r q), .int (48 + p0), .int (48 + p1)] rfl (k_X11_in l D T m0 a (sgnF r q) (48 + p0) (48 + p1) r q) (w0_S 3 C.2.2.2.2.1 kw_1944 kw_1945 kw_9 kw_1946 rfl rfl (by decide +kernel) ⟨by decide, by decide⟩) rfl (Nat.le_of_ble_eq_true rfl) (Nat.zero_le _) (Nat.zero_le _) dX11_digit_19 ?_
    refine g_if_ne (tgt := 32) C dX11_digit_22 (by decide) (fun z4 => ?_) (fun z4 => ?_)
    · replace h := h.1 z4
      refine g_aload_n C dX11_digit_32 rfl 0 rfl ?_
      refine g_dup C dX11_digit_33 rfl ?_
      refine gr_get C iwx_X11 10 (hw kw_1819) (by decide) rfl rfl dX11_digit_34 ?_
      refine g_iconst (v := 1) C dX11_digit_37 (by decide) ?_
      refine g_iadd C dX11_digit_38 ?_
      refine gr_put_10 C iwx_X11 (hw kw_1819) dX11_digit_39 ?_
      refine gr_nr (fun r5 er5 => ?_)
      replace h := h r5 er5
      refine g_aload_n C dX11_digit_42 rfl 0 rfl ?_
      refine gr_get C iwx_X11 9 (hw kw_1818) (by decide) rfl rfl dX11_digit_43 ?_
      refine g_aload_n C dX11_digit_46 rfl 0 rfl ?_
      refine gr_get C iwx_X11 10 (hw kw_1819) (by decide) rfl rfl dX11_digit_47 ?_
      refine g_iconst (v := 1) C dX11_digit_50 (by decide) ?_
      refine g_isub C dX11_digit_51 ?_
      obtain ⟨g6, h⟩ := h
      refine gr_ald_4 C g6 dX11_digit_52 ?_
      refine g_bipush (v := 48) C dX11_digit_53 (by decide) ?_
      refine g_isub C dX11_digit_55 ?_
      exact gr_iret C hr dX11_digit_56 h
    · replace h := h.2 z4
      refine g_aload_n C dX11_digit_25 rfl 0 rfl ?_
      refine g_iconst (v := 1) C dX11_digit_26 (by decide) ?_
      refine gr_put_11 C iwx_X11 vz1 (hw kw_1820) dX11_digit_27 ?_
      refine gr_nr (fun r7 er7 => ?_)
      replace h := h r7 er7
      refine g_iconst (v := 0) C dX11_digit_30 (by decide) ?_
      exact gr_iret C hr dX11_digit_31 h
theorem c_X11_digit (l : Launch) (D : va_G) (T : Nat → ClassId) (m0 : Nat) (a : Nat → Nat) (p0 : Int32) (p1 : Int32) (r : Nat → Int32) (q : Nat → Nat → Int32) (P : Int32 → RST → Prop) (h : wp_X11_digit P p0 p1 r q) : RMi l yX11_digit (ws_X11_digit) rm_X11_digit D T m0 a [.ref m0, .int p0, .int p1] r q P := gr_meti (by decide) rfl rfl (Nat.le_of_ble_eq_true rfl) (fun p e s m args below meth c A C hr => t_X11_digit C hr P p0 p1 r q h)
theorem k_X11_digit (l : Launch) (D : va_G) (T : Nat → ClassId) (m0 : Nat) (a : Nat → Nat) (p0 : Int32) (p1 : Int32) (r : Nat → Int32) (q : Nat → Nat → Int32) (h : psO r ∧ dix p0 p1) : RMi l yX11_digit (ws_X11_digit) rm_X11_digit D T m0 a [.ref m0, .int p0, .int p1] r q (fun v u => (v = dgV (q 4) (iv (r 8)) (pσ r) p0 p1 ∧ u.2 = q ∧ kR r u.1 [10, 11] ∧ psO u.1 ∧ pσ u.1 = dgS (q 4) (iv (r 8)) (pσ r) p0 p1)) := c_X11_digit l D T m0 a p0 p1 r q _ <|
  (by
    obtain ⟨hp, hd⟩ := h
    have hp0 := hp
    obtain ⟨⟨n, hn, e8⟩, ⟨h, hh, e10⟩, hb⟩ := hp
    have en : iv (r 8) = n := by rw [e8]; exact nI_clamp (by omega)
    rw [en] at hh
    have eh : (pσ r).1 = h := by unfold pσ; rw [e10]; exact nI_clamp (by omega)
    have esg : sg (q 4) n (pσ r) = sgnF r q := by unfold sg sgnF; rw [eh, e10, e8]; simp (disch := omega) only [nI_ltI, nI_clamp]
    unfold wp_X11_digit
    rw [en]
    have nochg : ∀ r2 : Nat → Int32, r2 = va_up r 11 1 → dgB (q 4) n (pσ r) p0 p1 = false → ((0 : Int32) = dgV (q 4) n (pσ r) p0 p1 ∧ q = q ∧ kR r r2 [10, 11] ∧ psO r2 ∧ pσ r2 = dgS (q 4) n (pσ r) p0 p1) := by
      intro r2 e2 ht
      obtain ⟨b1, b2⟩ := psO_11 hp0 vz1 e2
      unfold dgV dgS
      rw [ht]
      exact ⟨rfl, rfl, by rw [e2]; exact kR.rf.up (by decide) _, b1, b2⟩
    refine ⟨fun c r2 e2 => nochg r2 e2 ?_, fun c => ⟨fun z => by rw [e10]; rw [e10, e8, nI_ltI (by omega) (by omega)] at z; simp (disch := omega) only [li_2, li_3, li_4, li_5, li_6, li_7, li_8, li_9, li_10, li_12, li_14, li_20, li_26, li_30, li_31, li_36, li_38, li_47, li_48, li_50, li_57, li_58, li_80, li_98, li_99, li_100, li_102, li_104, li_105, li_108, li_109, li_110, li_114, li_115, li_119, li_122, li_137, li_146, li_147, li_148, li_149, li_150, li_200, li_255, li_256, li_274, li_510, li_512, li_640, li_999, li_1000, li_1024, li_3334, li_5000, li_9999, li_10000, li_23338, li_26672, li_30000, li_99999, li_150000, li_300000, pk_mul, nI_add, pk_sub, nI_clamp, nI_1, nI_p1, nI_a0, nI_0a, nI_m0, nI_m1, cl_0, cl_1, z01, z11, nI_leI, nI_ltI, nI_eq, nz_lt0, nz_le, nz_eq0, nz_pos, nz_le0, nz_eq1, nz_lt1, nz_ge1, nz_le1, nz_gt1, nz_vp, nz_vp0, nz_vp1, six_nI, vix_nI, bix_nI, pix_nI, fix_nI, gix_nI, rix_nI, zix_nI, pix_0, pix_1, bix_0, fix_0, fix_1, rix_1, true_and, and_true]; omega, fun c2 r5 e5 => ?_, fun c2 r2 e2 => nochg r2 e2 ?_⟩⟩
    · unfold dgB
      have : (pσ r).2 = true := by
        cases hs : (pσ r).2 with
        | true => rfl
        | false => exact absurd ((pb_of hb).mpr hs) c
      rw [this]; rfl
    · have ht : dgB (q 4) n (pσ r) p0 p1 = true := by
        unfold dgB
        rw [(pb_of hb).mp c, esg]
        simpa using c2
      obtain ⟨_, hlt, _⟩ := dgB_in hd ht
      rw [eh] at hlt
      rw [e10, nI_1] at e5
      have f10 : r5 10 = nI (h + 1) := by rw [e5, va_up_self]
      rw [← eh] at e5
      obtain ⟨g1, g2⟩ := psO_10 hp0 (by rw [eh, en]; exact hlt) e5
      rw [f10]
      simp (disch := omega) only [li_2, li_3, li_4, li_5, li_6, li_7, li_8, li_9, li_10, li_12, li_14, li_20, li_26, li_30, li_31, li_36, li_38, li_47, li_48, li_50, li_57, li_58, li_80, li_98, li_99, li_100, li_102, li_104, li_105, li_108, li_109, li_110, li_114, li_115, li_119, li_122, li_137, li_146, li_147, li_148, li_149, li_150, li_200, li_255, li_256, li_274, li_510, li_512, li_640, li_999, li_1000, li_1024, li_3334, li_5000, li_9999, li_10000, li_23338, li_26672, li_30000, li_99999, li_150000, li_300000, pk_mul, nI_add, pk_sub, nI_clamp, nI_1, nI_p1, nI_a0, nI_0a, nI_m0, nI_m1, cl_0, cl_1, z01, z11, nI_leI, nI_ltI, nI_eq, nz_lt0, nz_le, nz_eq0, nz_pos, nz_le0, nz_eq1, nz_lt1, nz_ge1, nz_le1, nz_gt1, nz_vp, nz_vp0, nz_vp1, six_nI, vix_nI, bix_nI, pix_nI, fix_nI, gix_nI, rix_nI, zix_nI, pix_0, pix_1, bix_0, fix_0, fix_1, rix_1, true_and, and_true]
      refine ⟨by omega, ?_⟩
      unfold dgV dgS
      rw [ht, if_pos rfl, if_pos rfl, eh]
      rw [eh] at g2
      refine ⟨rfl, ?_, g1, g2⟩
      rw [e5]; exact kR.rf.up (by decide) _
    · unfold dgB
      rw [esg]
      simp [c2])
abbrev ws_X11_number : List Cond := Cond.code yX11_number cX11_number 3 (some .int) :: W0
abbrev rm_X11_number : Room := ({ frames := 2, cells := 0, slots := 0, locals := 44 } : Room)
def wb_X11_number_10 (rec : Int32 → Int32 → (Nat → Int32) → (Nat → Nat → Int32) → Prop) (P : Int32 → RST → Prop) (x1 : Int32) (x2 : Int32) (r : Nat → Int32) (q : Nat → Nat → Int32) : Prop := (4 ≤ x2 → (P x1 (r, q))) ∧ (¬ 4 ≤ x2 → ((¬ (r 11) = 0 → (P x1 (r, q))) ∧ ((r 11) = 0 → ((r 10 < r 8 → vp_in (r 10) 80) ∧ (((zin (sgnF r q) 48 57) = 0 → (P x1 (r, q))) ∧ (¬ (zin (sgnF r q) 48 57) = 0 → ((psO r ∧ dix 0 9) ∧ (∀ (v9 : Int32) (r10 : Nat → Int32) (q11 : Nat → Nat → Int32), (v9 = dgV (q 4) (iv (r 8)) (pσ r) 0 9 ∧ q11 = q ∧ kR r r10 [10, 11] ∧ psO r10 ∧ pσ r10 = dgS (q 4) (iv (r 8)) (pσ r) 0 9) → (∀ v13 : Int32, v13 = ((10 * x1) + v9) → (∀ v14 : Int32, v14 = x2 + 1 → (rec v13 v14 r10 q11)))))))))))
def wp_X11_number_10 (P : Int32 → RST → Prop) : Nat → Int32 → Int32 → (Nat → Int32) → (Nat → Nat → Int32) → Prop
  | 0 => fun _ _ _ _ => False
  | n + 1 => fun x1 x2 r q => wb_X11_number_10 (wp_X11_number_10  P n)  P x1 x2 r q
set_option maxRecDepth 100000 in
set_option maxHeartbeats 4000000 in
theorem t_X11_number_10 {p : Program} {l : Launch} {e : Env} {s : State} {m : MethodId} {args : Array Value} {below : List Frame} {meth : Method} {c : Code} {D : va_G} {A : Nat → Prop} {T : Nat → ClassId} {m0 : Nat} {a : Nat → Nat} (C : GC p s m args meth c cX11_number "FreightRaterModel" (ws_X11_number) 3 D A (zty T)) (hr : meth.sig.returnType = (some .int)) (P : Int32 → RST → Prop) : ∀ (n : Nat) (x1 : Int32) (x2 : Int32) (r : Nat → Int32) (q : Nat → Nat → Int32), wp_X11_number_10  P n x1 x2 r q → GW p l e rm_X11_number s m args below meth c D A 3 0 0 (MQ below (va_Qi P (RE D T m0 a A) A) args s 0 0 A) (RW m0 a T r q) 0 0 10 [(0, .ref m0), (1, .int x1), (2, .int x2)] [] := by
  have hw : ∀ {w : Cond}, w ∈ W0 → w.before args s = true := fun h => C.2.2.2.2.1 _ (List.mem_cons_of_mem _ h)
  intro n
  induction n with
  | zero => intro x1 x2 r q h; exact h.elim
  | succ n ih =>
    intro x1 x2 r q h
    replace h : wb_X11_number_10 (wp_X11_number_10  P n)  P x1 x2 r q := h
    unfold wb_X11_number_10 at h
    refine g_iload_n C dX11_number_10 rfl 2 rfl ?_
    refine g_iconst (v := 4) C dX11_number_11 (by decide) ?_
    refine g_icmp_ge (tgt := 55) C dX11_number_12 (by decide) (fun z5 => ?_) (fun z5 => ?_)
    · replace h := h.1 z5
      refine g_iload_n C dX11_number_55 rfl 1 rfl ?_
      exact gr_iret C hr dX11_number_56 h
    · replace h := h.2 z5
      refine g_aload_n C dX11_number_15 rfl 0 rfl ?_
      refine gr_get C iwx_X11 11 (hw kw_1820) (by decide) rfl rfl dX11_number_16 ?_
      refine g_if_ne (tgt := 55) C dX11_number_19 (by decide) (fun z6 => ?_) (fun z6 => ?_)
      · replace h := h.1 z6
        refine g_iload_n C dX11_number_55 rfl 1 rfl ?_
        exact gr_iret C hr dX11_number_56 h
      · replace h := h.2 z6
        refine g_aload_n C dX11_number_22 rfl 0 rfl ?_
        obtain ⟨g7, h⟩ := h
        refine gr_callVf C [] rfl (k_X11_sign l D T m0 a  r q g7) (w0_V 0 C.2.2.2.2.1 kw_2038 kw_2040 ks_62 kw_9 kw_2041 rfl rfl (by decide +kernel) ⟨by decide, by decide⟩) rfl (Nat.le_of_ble_eq_true rfl) (Nat.zero_le _) (Nat.zero_le _) dX11_number_23 ?_
        refine g_bipush (v := 48) C dX11_number_26 (by decide) ?_
        refine g_bipush (v := 57) C dX11_number_28 (by decide) ?_
        refine gr_callSf C [.int (sgnF r q), .int 48, .int 57] rfl (k_X11_in l D T m0 a (sgnF r q) 48 57 r q) (w0_S 3 C.2.2.2.2.1 kw_1944 kw_1945 kw_9 kw_1946 rfl rfl (by decide +kernel) ⟨by decide, by decide⟩) rfl (Nat.le_of_ble_eq_true rfl) (Nat.zero_le _) (Nat.zero_le _) dX11_number_30 ?_
        refine g_if_eq (tgt := 55) C dX11_number_33 (by decide) (fun z8 => ?_) (fun z8 => ?_)
        · replace h := h.1 z8
          refine g_iload_n C dX11_number_55 rfl 1 rfl ?_
          exact gr_iret C hr dX11_number_56 h
        · replace h := h.2 z8
          refine g_bipush (v := 10) C dX11_number_36 (by decide) ?_
          refine g_iload_n C dX11_number_38 rfl 1 rfl ?_
          refine g_imul C dX11_number_39 ?_
          refine g_aload_n C dX11_number_40 rfl 0 rfl ?_
          refine g_iconst (v := 0) C dX11_number_41 (by decide) ?_
          refine g_bipush (v := 9) C dX11_number_42 (by decide) ?_
          obtain ⟨g12, h⟩ := h
          refine gr_calliV C [.int 0, .int 9] rfl (k_X11_digit l D T m0 a 0 9 r q g12) (w0_V 2 C.2.2.2.2.1 kw_2046 kw_2048 ks_64 kw_9 kw_2049 rfl rfl (by decide +kernel) ⟨by decide, by decide⟩) rfl (Nat.le_of_ble_eq_true rfl) (Nat.zero_le _) (Nat.zero_le _) dX11_number_44 (fun v9 r10 q11 hp => ?_)
          replace h := h v9 r10 q11 hp
          refine g_iadd C dX11_number_47 ?_
          refine g_topi (fun v13 ev13 => ?_)
          replace h := h v13 ev13
          refine g_istore_n (lv' := [(1, .int v13), (0, .ref m0), (2, .int x2)]) C dX11_number_48 rfl (by decide) rfl ?_
          obtain ⟨v14, ev14⟩ : ∃ y : Int32, y = x2 + 1 := ⟨_, rfl⟩
          replace h := h v14 ev14
          refine g_iinc (v := v14) (lv' := [(2, .int v14), (1, .int v13), (0, .ref m0)]) C dX11_number_49 (j := 2) rfl (by rw [ev14]; rfl) (by decide) rfl ?_
          refine g_goto (tgt := 10) C dX11_number_52 (by decide) ?_
          refine g_locals [2, 1, 0] rfl ?_
          exact ih v13 v14 r10 q11 h
def wp_X11_number (P : Int32 → RST → Prop)  (r : Nat → Int32) (q : Nat → Nat → Int32) : Prop := (psO r ∧ dix 0 9) ∧ (∀ (v1 : Int32) (r2 : Nat → Int32) (q3 : Nat → Nat → Int32), (v1 = dgV (q 4) (iv (r 8)) (pσ r) 0 9 ∧ q3 = q ∧ kR r r2 [10, 11] ∧ psO r2 ∧ pσ r2 = dgS (q 4) (iv (r 8)) (pσ r) 0 9) → (∃ k15 : Nat, wp_X11_number_10  P k15 v1 1 r2 q3))
set_option maxRecDepth 100000 in
set_option maxHeartbeats 4000000 in
theorem t_X11_number {p : Program} {l : Launch} {e : Env} {s : State} {m : MethodId} {args : Array Value} {below : List Frame} {meth : Method} {c : Code} {D : va_G} {A : Nat → Prop} {T : Nat → ClassId} {m0 : Nat} {a : Nat → Nat} (C : GC p s m args meth c cX11_number "FreightRaterModel" (ws_X11_number) 3 D A (zty T)) (hr : meth.sig.returnType = (some .int)) (P : Int32 → RST → Prop) : ∀  (r : Nat → Int32) (q : Nat → Nat → Int32), wp_X11_number P  r q → GW p l e rm_X11_number s m args below meth c D A 3 0 0 (MQ below (va_Qi P (RE D T m0 a A) A) args s 0 0 A) (RW m0 a T r q) 0 0 0 [(0, .ref m0)] [] := by
  have hw : ∀ {w : Cond}, w ∈ W0 → w.before args s = true := fun h => C.2.2.2.2.1 _ (List.mem_cons_of_mem _ h)
  intro  r q h
  unfold wp_X11_number at h
  refine g_aload_n C dX11_number_0 rfl 0 rfl ?_
  refine g_iconst (v := 0) C dX11_number_1 (by decide) ?_
  refine g_bipush (v := 9) C dX11_number_2 (by decide) ?_
  obtain ⟨g4, h⟩ := h
  refine gr_calliV C [.int 0, .int 9] rfl (k_X11_digit l D T m0 a 0 9 r q g4) (w0_V 2 C.2.2.2.2.1 kw_2046 kw_2048 ks_64 kw_9 kw_2049 rfl rfl (by decide +kernel) ⟨by decide, by decide⟩) rfl (Nat.le_of_ble_eq_true rfl) (Nat.zero_le _) (Nat.zero_le _) dX11_number_4 (fun v1 r2 q3 hp => ?_)
  replace h := h v1 r2 q3 hp
  refine g_istore_n (lv' := [(1, .int v1), (0, .ref m0)]) C dX11_number_7 rfl (by decide) rfl ?_
  refine g_iconst (v := 1) C dX11_number_8 (by decide) ?_
  refine g_istore_n (lv' := [(2, .int 1), (1, .int v1), (0, .ref m0)]) C dX11_number_9 rfl (by decide) rfl ?_
  refine g_locals [2, 1, 0] rfl ?_
  obtain ⟨k15, h⟩ := h
  refine t_X11_number_10 C hr  P  k15 v1 1 r2 q3 h
theorem c_X11_number (l : Launch) (D : va_G) (T : Nat → ClassId) (m0 : Nat) (a : Nat → Nat)  (r : Nat → Int32) (q : Nat → Nat → Int32) (P : Int32 → RST → Prop) (h : wp_X11_number P  r q) : RMi l yX11_number (ws_X11_number) rm_X11_number D T m0 a [.ref m0] r q P := gr_meti (by decide) rfl rfl (Nat.le_of_ble_eq_true rfl) (fun p e s m args below meth c A C hr => t_X11_number C hr P  r q h)
theorem rl_number {P : Int32 → RST → Prop} {r : Nat → Int32} {q : Nat → Nat → Int32} {n : Nat} : ∀ (k x fuel : Nat) (v : Int32) (r' : Nat → Int32), x + k = 4 → k < fuel → psO r' → iv (r' 8) = n → kR r r' [10, 11] → (∀ r2, psO r2 → kR r r2 [10, 11] → pσ r2 = (nbL (q 4) n k v (pσ r')).2 → P (nbL (q 4) n k v (pσ r')).1 (r2, q)) → wp_X11_number_10 P fuel v (nI x) r' q := by
  intro k
  induction k with
  | zero =>
    intro x fuel v r' hx hf hp hn hk h
    obtain ⟨f, rfl⟩ : ∃ f, fuel = f + 1 := ⟨fuel - 1, by omega⟩; rw [wp_X11_number_10]; unfold wb_X11_number_10; dsimp only
    simp (disch := omega) only [li_2, li_3, li_4, li_5, li_6, li_7, li_8, li_9, li_10, li_12, li_14, li_20, li_26, li_30, li_31, li_36, li_38, li_47, li_48, li_50, li_57, li_58, li_80, li_98, li_99, li_100, li_102, li_104, li_105, li_108, li_109, li_110, li_114, li_115, li_119, li_122, li_137, li_146, li_147, li_148, li_149, li_150, li_200, li_255, li_256, li_274, li_510, li_512, li_640, li_999, li_1000, li_1024, li_3334, li_5000, li_9999, li_10000, li_23338, li_26672, li_30000, li_99999, li_150000, li_300000, pk_mul, nI_add, pk_sub, nI_clamp, nI_1, nI_p1, nI_a0, nI_0a, nI_m0, nI_m1, cl_0, cl_1, z01, z11, nI_leI, nI_ltI, nI_eq, nz_lt0, nz_le, nz_eq0, nz_pos, nz_le0, nz_eq1, nz_lt1, nz_ge1, nz_le1, nz_gt1, nz_vp, nz_vp0, nz_vp1, six_nI, vix_nI, bix_nI, pix_nI, fix_nI, gix_nI, rix_nI, zix_nI, pix_0, pix_1, bix_0, fix_0, fix_1, rix_1, true_and, and_true]
    exact ⟨fun _ => h r' hp hk rfl, fun z => absurd (by omega) z⟩
  | succ k ih =>
    intro x fuel v r' hx hf hp hn hk h
    obtain ⟨f, rfl⟩ : ∃ f, fuel = f + 1 := ⟨fuel - 1, by omega⟩; rw [wp_X11_number_10]; unfold wb_X11_number_10; dsimp only
    have hp0 := hp
    obtain ⟨⟨n', hn', e8⟩, ⟨h', hh, e10⟩, hb⟩ := hp
    have en : iv (r' 8) = n' := by rw [e8]; exact nI_clamp (by omega)
    have enn : n = n' := by rw [← hn, en]
    subst enn
    rw [en] at hh
    have eh : (pσ r').1 = h' := by unfold pσ; rw [e10]; exact nI_clamp (by omega)
    have esg : sg (q 4) n (pσ r') = sgnF r' q := by unfold sg sgnF; rw [eh, e10, e8]; simp (disch := omega) only [nI_ltI, nI_clamp]
    rw [nbL] at h
    have stop : dgB (q 4) n (pσ r') 0 9 = false → P v (r', q) := fun c => by
      rw [if_neg (by rw [c]; decide)] at h
      exact h r' hp0 hk rfl
    have hlt4 : nI 4 ≤ nI x ↔ 4 ≤ x := nI_leI (by decide) (by omega)
    refine ⟨fun z => absurd (hlt4.mp z) (by omega), fun _ => ⟨fun c => stop ?_, fun c => ⟨fun z => by rw [e10]; rw [e10, e8, nI_ltI (by omega) (by omega)] at z; simp (disch := omega) only [li_2, li_3, li_4, li_5, li_6, li_7, li_8, li_9, li_10, li_12, li_14, li_20, li_26, li_30, li_31, li_36, li_38, li_47, li_48, li_50, li_57, li_58, li_80, li_98, li_99, li_100, li_102, li_104, li_105, li_108, li_109, li_110, li_114, li_115, li_119, li_122, li_137, li_146, li_147, li_148, li_149, li_150, li_200, li_255, li_256, li_274, li_510, li_512, li_640, li_999, li_1000, li_1024, li_3334, li_5000, li_9999, li_10000, li_23338, li_26672, li_30000, li_99999, li_150000, li_300000, pk_mul, nI_add, pk_sub, nI_clamp, nI_1, nI_p1, nI_a0, nI_0a, nI_m0, nI_m1, cl_0, cl_1, z01, z11, nI_leI, nI_ltI, nI_eq, nz_lt0, nz_le, nz_eq0, nz_pos, nz_le0, nz_eq1, nz_lt1, nz_ge1, nz_le1, nz_gt1, nz_vp, nz_vp0, nz_vp1, six_nI, vix_nI, bix_nI, pix_nI, fix_nI, gix_nI, rix_nI, zix_nI, pix_0, pix_1, bix_0, fix_0, fix_1, rix_1, true_and, and_true]; omega, fun c2 => stop ?_, fun c2 => ⟨⟨hp0, dix09⟩, fun v8 r9 q10 hh2 v11 e11 v12 e12 => ?_⟩⟩⟩⟩
    · unfold dgB
      have : (pσ r').2 = true := by
        cases hs : (pσ r').2 with
        | true => rfl
        | false => exact absurd ((pb_of hb).mpr hs) c
      rw [this]; rfl
    · unfold dgB
      rw [esg]
      have c2' : zin (sgnF r' q) (48 + 0) (48 + 9) = 0 := c2
      rw [c2']
      cases (pσ r').2 <;> rfl
    · have ht : dgB (q 4) n (pσ r') 0 9 = true := by
        unfold dgB
        rw [(pb_of hb).mp c, esg]
        have c2' : ¬ zin (sgnF r' q) (48 + 0) (48 + 9) = 0 := c2
        simpa using c2'
      rw [if_pos ht] at h
      obtain ⟨a1, a2, a3, a4, a5⟩ := hh2
      subst a2
      rw [en] at a1 a5
      rw [e11, a1, e12, nI_1]
      refine ih (x + 1) f _ r9 (by omega) (by omega) a4 (by rw [a3 8 (by decide)]; exact en) (hk.tr a3 (fun _ h => h) (fun _ h => h)) ?_
      rw [a5]
      exact h
theorem k_X11_number (l : Launch) (D : va_G) (T : Nat → ClassId) (m0 : Nat) (a : Nat → Nat)  (r : Nat → Int32) (q : Nat → Nat → Int32) (h : psO r) : RMi l yX11_number (ws_X11_number) rm_X11_number D T m0 a [.ref m0] r q (fun v u => (v = (nbF (q 4) (iv (r 8)) (pσ r)).1 ∧ u.2 = q ∧ kR r u.1 [10, 11] ∧ psO u.1 ∧ pσ u.1 = (nbF (q 4) (iv (r 8)) (pσ r)).2)) := c_X11_number l D T m0 a  r q _ <|
  (by
    unfold wp_X11_number
    refine ⟨⟨h, dix09⟩, fun v1 r2 q3 hh => ?_⟩
    obtain ⟨a1, a2, a3, a4, a5⟩ := hh
    subst a2 a1
    refine ⟨4, rl_number (r := r) (n := iv (r 8)) 3 1 _ _ r2 (by omega) (by omega) a4 (by rw [a3 8 (by decide)]) a3 (fun r3 b1 b2 b3 => ?_)⟩
    unfold nbF
    rw [a5] at b3 ⊢
    exact ⟨rfl, rfl, b2, b1, b3⟩)

end S_RES
