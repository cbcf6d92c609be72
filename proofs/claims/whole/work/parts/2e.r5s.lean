section S_R5S
abbrev ws_X11_hasOther : List Cond := Cond.code yX11_hasOther cX11_hasOther 6 (some .boolean) :: W0
abbrev rm_X11_hasOther : Room := ({ frames := 1, cells := 0, slots := 0, locals := 22 } : Room)
def wb_X11_hasOther_6 (rec : Int32 → Int32 → Int32 → Int32 → Int32 → (Nat → Int32) → (Nat → Nat → Int32) → Prop) (P : Int32 → RST → Prop) (x1 : Int32) (x2 : Int32) (x3 : Int32) (x4 : Int32) (x5 : Int32) (r : Nat → Int32) (q : Nat → Nat → Int32) : Prop := vp_in 1 3334 ∧ (((q 0 (Int32.toNatClampNeg 1)) ≤ x5 → (vz x4 ∧ P x4 (r, q))) ∧ (¬ (q 0 (Int32.toNatClampNeg 1)) ≤ x5 → ((x5 = x2 → (∀ v4 : Int32, v4 = (x4 ||| 0) → (∀ v5 : Int32, v5 = x5 + 1 → (rec x1 x2 x3 v4 v5 r q)))) ∧ (¬ x5 = x2 → (((hasF x1 x5) = 0 → (∀ v7 : Int32, v7 = (x4 ||| 0) → (∀ v8 : Int32, v8 = x5 + 1 → (rec x1 x2 x3 v7 v8 r q)))) ∧ (¬ (hasF x1 x5) = 0 → ((six x5 ∧ pix 2) ∧ (((hasF (q 0 (14 + 26 * iv x5 + iv 2)) x3) = 0 → (∀ v11 : Int32, v11 = (x4 ||| 0) → (∀ v12 : Int32, v12 = x5 + 1 → (rec x1 x2 x3 v11 v12 r q)))) ∧ (¬ (hasF (q 0 (14 + 26 * iv x5 + iv 2)) x3) = 0 → (∀ v13 : Int32, v13 = (x4 ||| 1) → (∀ v14 : Int32, v14 = x5 + 1 → (rec x1 x2 x3 v13 v14 r q))))))))))))
def wp_X11_hasOther_6 (P : Int32 → RST → Prop) : Nat → Int32 → Int32 → Int32 → Int32 → Int32 → (Nat → Int32) → (Nat → Nat → Int32) → Prop
  | 0 => fun _ _ _ _ _ _ _ => False
  | n + 1 => fun x1 x2 x3 x4 x5 r q => wb_X11_hasOther_6 (wp_X11_hasOther_6  P n)  P x1 x2 x3 x4 x5 r q
set_option maxRecDepth 100000 in
set_option maxHeartbeats 4000000 in
theorem t_X11_hasOther_6 {p : Program} {l : Launch} {e : Env} {s : State} {m : MethodId} {args : Array Value} {below : List Frame} {meth : Method} {c : Code} {D : va_G} {A : Nat → Prop} {T : Nat → ClassId} {m0 : Nat} {a : Nat → Nat} (C : GC p s m args meth c cX11_hasOther "FreightRaterModel" (ws_X11_hasOther) 6 D A (zty T)) (hr : meth.sig.returnType = (some .boolean)) (P : Int32 → RST → Prop) : ∀ (n : Nat) (x1 : Int32) (x2 : Int32) (x3 : Int32) (x4 : Int32) (x5 : Int32) (r : Nat → Int32) (q : Nat → Nat → Int32), wp_X11_hasOther_6  P n x1 x2 x3 x4 x5 r q → GW p l e rm_X11_hasOther s m args below meth c D A 6 0 0 (MQ below (va_Qi P (RE D T m0 a A) A) args s 0 0 A) (RW m0 a T r q) 0 0 6 [(0, .ref m0), (1, .int x1), (2, .int x2), (3, .int x3), (4, .int x4), (5, .int x5)] [] := by
  have hw : ∀ {w : Cond}, w ∈ W0 → w.before args s = true := fun h => C.2.2.2.2.1 _ (List.mem_cons_of_mem _ h)
  intro n
  induction n with
  | zero => intro x1 x2 x3 x4 x5 r q h; exact h.elim
  | succ n ih =>
    intro x1 x2 x3 x4 x5 r q h
    replace h : wb_X11_hasOther_6 (wp_X11_hasOther_6  P n)  P x1 x2 x3 x4 x5 r q := h
    unfold wb_X11_hasOther_6 at h
    refine g_iload C dX11_hasOther_6 5 rfl ?_
    refine g_aload_n C dX11_hasOther_8 rfl 0 rfl ?_
    refine gr_get C iwx_X11 0 (hw kw_1809) (by decide) rfl rfl dX11_hasOther_9 ?_
    refine g_iconst (v := 1) C dX11_hasOther_12 (by decide) ?_
    obtain ⟨g1, h⟩ := h
    refine gr_ald_0 C g1 dX11_hasOther_13 ?_
    refine g_icmp_ge (tgt := 62) C dX11_hasOther_14 (by decide) (fun z2 => ?_) (fun z2 => ?_)
    · replace h := h.1 z2
      refine g_iload C dX11_hasOther_62 4 rfl ?_
      exact gr_zret C hr h.1 dX11_hasOther_64 h.2
    · replace h := h.2 z2
      refine g_iload C dX11_hasOther_17 4 rfl ?_
      refine g_iload C dX11_hasOther_19 5 rfl ?_
      refine g_iload_n C dX11_hasOther_21 rfl 2 rfl ?_
      refine g_icmp_eq (tgt := 52) C dX11_hasOther_22 (by decide) (fun z3 => ?_) (fun z3 => ?_)
      · replace h := h.1 z3
        refine g_iconst (v := 0) C dX11_hasOther_52 (by decide) ?_
        refine g_ior C dX11_hasOther_53 ?_
        refine g_topi (fun v4 ev4 => ?_)
        replace h := h v4 ev4
        refine g_istore (lv' := [(4, .int v4), (0, .ref m0), (1, .int x1), (2, .int x2), (3, .int x3), (5, .int x5)]) C dX11_hasOther_54 (by decide) rfl ?_
        obtain ⟨v5, ev5⟩ : ∃ y : Int32, y = x5 + 1 := ⟨_, rfl⟩
        replace h := h v5 ev5
        refine g_iinc (v := v5) (lv' := [(5, .int v5), (4, .int v4), (0, .ref m0), (1, .int x1), (2, .int x2), (3, .int x3)]) C dX11_hasOther_56 (j := 5) rfl (by rw [ev5]; rfl) (by decide) rfl ?_
        refine g_goto (tgt := 6) C dX11_hasOther_59 (by decide) ?_
        refine g_locals [2, 3, 4, 5, 1, 0] rfl ?_
        exact ih x1 x2 x3 v4 v5 r q h
      · replace h := h.2 z3
        refine g_iload_n C dX11_hasOther_25 rfl 1 rfl ?_
        refine g_iload C dX11_hasOther_26 5 rfl ?_
        refine gr_callSf C [.int x1, .int x5] rfl (k_X11_has l D T m0 a x1 x5 r q) (w0_S 2 C.2.2.2.2.1 kw_2178 kw_2179 kw_9 kw_2180 rfl rfl (by decide +kernel) ⟨by decide, by decide⟩) rfl (Nat.le_of_ble_eq_true rfl) (Nat.zero_le _) (Nat.zero_le _) dX11_hasOther_28 ?_
        refine g_if_eq (tgt := 52) C dX11_hasOther_31 (by decide) (fun z6 => ?_) (fun z6 => ?_)
        · replace h := h.1 z6
          refine g_iconst (v := 0) C dX11_hasOther_52 (by decide) ?_
          refine g_ior C dX11_hasOther_53 ?_
          refine g_topi (fun v7 ev7 => ?_)
          replace h := h v7 ev7
          refine g_istore (lv' := [(4, .int v7), (0, .ref m0), (1, .int x1), (2, .int x2), (3, .int x3), (5, .int x5)]) C dX11_hasOther_54 (by decide) rfl ?_
          obtain ⟨v8, ev8⟩ : ∃ y : Int32, y = x5 + 1 := ⟨_, rfl⟩
          replace h := h v8 ev8
          refine g_iinc (v := v8) (lv' := [(5, .int v8), (4, .int v7), (0, .ref m0), (1, .int x1), (2, .int x2), (3, .int x3)]) C dX11_hasOther_56 (j := 5) rfl (by rw [ev8]; rfl) (by decide) rfl ?_
          refine g_goto (tgt := 6) C dX11_hasOther_59 (by decide) ?_
          refine g_locals [2, 3, 4, 5, 1, 0] rfl ?_
          exact ih x1 x2 x3 v7 v8 r q h
        · replace h := h.2 z6
          refine g_aload_n C dX11_hasOther_34 rfl 0 rfl ?_
          refine g_iload C dX11_hasOther_35 5 rfl ?_
          refine g_iconst (v := 2) C dX11_hasOther_37 (by decide) ?_
          obtain ⟨g9, h⟩ := h
          refine gr_callVf C [.int x5, .int 2] rfl (k_X11_of l D T m0 a x5 2 r q g9) (w0_V 2 C.2.2.2.2.1 kw_2127 kw_2129 ks_79 kw_9 kw_2130 rfl rfl (by decide +kernel) ⟨by decide, by decide⟩) rfl (Nat.le_of_ble_eq_true rfl) (Nat.zero_le _) (Nat.zero_le _) dX11_hasOther_38 ?_
          refine g_iload_n C dX11_hasOther_41 rfl 3 rfl ?_
          refine gr_callSf C [.int (q 0 (14 + 26 * iv x5 + iv 2)), .int x3] rfl (k_X11_has l D T m0 a (q 0 (14 + 26 * iv x5 + iv 2)) x3 r q) (w0_S 2 C.2.2.2.2.1 kw_2178 kw_2179 kw_9 kw_2180 rfl rfl (by decide +kernel) ⟨by decide, by decide⟩) rfl (Nat.le_of_ble_eq_true rfl) (Nat.zero_le _) (Nat.zero_le _) dX11_hasOther_42 ?_
          refine g_if_eq (tgt := 52) C dX11_hasOther_45 (by decide) (fun z10 => ?_) (fun z10 => ?_)
          · replace h := h.1 z10
            refine g_iconst (v := 0) C dX11_hasOther_52 (by decide) ?_
            refine g_ior C dX11_hasOther_53 ?_
            refine g_topi (fun v11 ev11 => ?_)
            replace h := h v11 ev11
            refine g_istore (lv' := [(4, .int v11), (0, .ref m0), (1, .int x1), (2, .int x2), (3, .int x3), (5, .int x5)]) C dX11_hasOther_54 (by decide) rfl ?_
            obtain ⟨v12, ev12⟩ : ∃ y : Int32, y = x5 + 1 := ⟨_, rfl⟩
            replace h := h v12 ev12
            refine g_iinc (v := v12) (lv' := [(5, .int v12), (4, .int v11), (0, .ref m0), (1, .int x1), (2, .int x2), (3, .int x3)]) C dX11_hasOther_56 (j := 5) rfl (by rw [ev12]; rfl) (by decide) rfl ?_
            refine g_goto (tgt := 6) C dX11_hasOther_59 (by decide) ?_
            refine g_locals [2, 3, 4, 5, 1, 0] rfl ?_
            exact ih x1 x2 x3 v11 v12 r q h
          · replace h := h.2 z10
            refine g_iconst (v := 1) C dX11_hasOther_48 (by decide) ?_
            refine g_goto (tgt := 53) C dX11_hasOther_49 (by decide) ?_
            refine g_ior C dX11_hasOther_53 ?_
            refine g_topi (fun v13 ev13 => ?_)
            replace h := h v13 ev13
            refine g_istore (lv' := [(4, .int v13), (0, .ref m0), (1, .int x1), (2, .int x2), (3, .int x3), (5, .int x5)]) C dX11_hasOther_54 (by decide) rfl ?_
            obtain ⟨v14, ev14⟩ : ∃ y : Int32, y = x5 + 1 := ⟨_, rfl⟩
            replace h := h v14 ev14
            refine g_iinc (v := v14) (lv' := [(5, .int v14), (4, .int v13), (0, .ref m0), (1, .int x1), (2, .int x2), (3, .int x3)]) C dX11_hasOther_56 (j := 5) rfl (by rw [ev14]; rfl) (by decide) rfl ?_
            refine g_goto (tgt := 6) C dX11_hasOther_59 (by decide) ?_
            refine g_locals [2, 3, 4, 5, 1, 0] rfl ?_
            exact ih x1 x2 x3 v13 v14 r q h
def wp_X11_hasOther (P : Int32 → RST → Prop) (p0 : Int32) (p1 : Int32) (p2 : Int32) (r : Nat → Int32) (q : Nat → Nat → Int32) : Prop := ∃ k15 : Nat, wp_X11_hasOther_6  P k15 p0 p1 p2 0 0 r q
set_option maxRecDepth 100000 in
set_option maxHeartbeats 4000000 in
theorem t_X11_hasOther {p : Program} {l : Launch} {e : Env} {s : State} {m : MethodId} {args : Array Value} {below : List Frame} {meth : Method} {c : Code} {D : va_G} {A : Nat → Prop} {T : Nat → ClassId} {m0 : Nat} {a : Nat → Nat} (C : GC p s m args meth c cX11_hasOther "FreightRaterModel" (ws_X11_hasOther) 6 D A (zty T)) (hr : meth.sig.returnType = (some .boolean)) (P : Int32 → RST → Prop) : ∀ (p0 : Int32) (p1 : Int32) (p2 : Int32) (r : Nat → Int32) (q : Nat → Nat → Int32), wp_X11_hasOther P p0 p1 p2 r q → GW p l e rm_X11_hasOther s m args below meth c D A 6 0 0 (MQ below (va_Qi P (RE D T m0 a A) A) args s 0 0 A) (RW m0 a T r q) 0 0 0 [(0, .ref m0), (1, .int p0), (2, .int p1), (3, .int p2)] [] := by
  have hw : ∀ {w : Cond}, w ∈ W0 → w.before args s = true := fun h => C.2.2.2.2.1 _ (List.mem_cons_of_mem _ h)
  intro p0 p1 p2 r q h
  unfold wp_X11_hasOther at h
  refine g_iconst (v := 0) C dX11_hasOther_0 (by decide) ?_
  refine g_istore (lv' := [(4, .int 0), (0, .ref m0), (1, .int p0), (2, .int p1), (3, .int p2)]) C dX11_hasOther_1 (by decide) rfl ?_
  refine g_iconst (v := 0) C dX11_hasOther_3 (by decide) ?_
  refine g_istore (lv' := [(5, .int 0), (4, .int 0), (0, .ref m0), (1, .int p0), (2, .int p1), (3, .int p2)]) C dX11_hasOther_4 (by decide) rfl ?_
  refine g_locals [2, 3, 4, 5, 1, 0] rfl ?_
  obtain ⟨k15, h⟩ := h
  refine t_X11_hasOther_6 C hr  P  k15 p0 p1 p2 0 0 r q h
theorem c_X11_hasOther (l : Launch) (D : va_G) (T : Nat → ClassId) (m0 : Nat) (a : Nat → Nat) (p0 : Int32) (p1 : Int32) (p2 : Int32) (r : Nat → Int32) (q : Nat → Nat → Int32) (P : Int32 → RST → Prop) (h : wp_X11_hasOther P p0 p1 p2 r q) : RMi l yX11_hasOther (ws_X11_hasOther) rm_X11_hasOther D T m0 a [.ref m0, .int p0, .int p1, .int p2] r q P := gr_meti (by decide) rfl rfl (Nat.le_of_ble_eq_true rfl) (fun p e s m args below meth c A C hr => t_X11_hasOther C hr P p0 p1 p2 r q h)
theorem or_z {a : Int32} : a ||| 0 = a := Int32.or_zero
theorem or_1 {a : Int32} (h : vz a) : a ||| 1 = 1 := by rcases h with rfl | rfl <;> rfl
theorem hoFold_vz {μ : Nat → Int32} {g s : Nat} {h : Int32} : ∀ (k o : Nat) (a : Int32), vz a → vz (hoFold μ g s h k o a) := by
  intro k
  induction k with
  | zero => intro o a ha; exact ha
  | succ k ih =>
    intro o a ha
    refine ih (o + 1) _ ?_
    split
    · exact vz1
    · exact ha
theorem rl_hasOther {P : Int32 → RST → Prop} {r : Nat → Int32} {q : Nat → Nat → Int32} {g s n1 : Nat} {h : Int32} (hg : g < 1024) (hs : s < 10) (hn1 : n1 ≤ 10) (hm : q 0 1 = nI n1) : ∀ (k o fuel : Nat) (a : Int32), o + k = n1 → k < fuel → vz a → P (hoFold (q 0) g s h k o a) (r, q) → wp_X11_hasOther_6 P fuel (nI g) (nI s) h a (nI o) r q := by
  intro k
  induction k with
  | zero =>
    intro o fuel a ho hf ha hp
    obtain ⟨f, rfl⟩ : ∃ f, fuel = f + 1 := ⟨fuel - 1, by omega⟩; rw [wp_X11_hasOther_6]; unfold wb_X11_hasOther_6; dsimp only
    simp (disch := omega) only [hm, li_2, li_3, li_4, li_5, li_6, li_7, li_8, li_9, li_10, li_12, li_14, li_20, li_26, li_30, li_31, li_36, li_38, li_47, li_48, li_50, li_57, li_58, li_80, li_98, li_99, li_100, li_102, li_104, li_105, li_108, li_109, li_110, li_114, li_115, li_119, li_122, li_137, li_146, li_147, li_148, li_149, li_150, li_200, li_255, li_256, li_274, li_510, li_512, li_640, li_999, li_1000, li_1024, li_3334, li_5000, li_9999, li_10000, li_23338, li_26672, li_30000, li_99999, li_150000, li_300000, pk_mul, nI_add, pk_sub, nI_clamp, nI_1, nI_p1, nI_a0, nI_0a, nI_m0, nI_m1, cl_0, cl_1, z01, z11, nI_leI, nI_ltI, nI_eq, nz_lt0, nz_le, nz_eq0, nz_pos, nz_le0, nz_eq1, nz_lt1, nz_ge1, nz_le1, nz_gt1, nz_vp, nz_vp0, nz_vp1, six_nI, vix_nI, bix_nI, pix_nI, fix_nI, gix_nI, rix_nI, zix_nI, pix_0, pix_1, bix_0, fix_0, fix_1, rix_1, true_and, and_true]
    exact ⟨by omega, fun _ => ⟨ha, hp⟩, fun h => absurd (by omega) h⟩
  | succ k ih =>
    intro o fuel a ho hf ha hp
    obtain ⟨f, rfl⟩ : ∃ f, fuel = f + 1 := ⟨fuel - 1, by omega⟩; rw [wp_X11_hasOther_6]; unfold wb_X11_hasOther_6; dsimp only
    rw [hoFold] at hp
    have hh := has_0 (n := g) (s := o) hg (by omega)
    simp (disch := omega) only [hm, hh, or_z, or_1 ha, li_2, li_3, li_4, li_5, li_6, li_7, li_8, li_9, li_10, li_12, li_14, li_20, li_26, li_30, li_31, li_36, li_38, li_47, li_48, li_50, li_57, li_58, li_80, li_98, li_99, li_100, li_102, li_104, li_105, li_108, li_109, li_110, li_114, li_115, li_119, li_122, li_137, li_146, li_147, li_148, li_149, li_150, li_200, li_255, li_256, li_274, li_510, li_512, li_640, li_999, li_1000, li_1024, li_3334, li_5000, li_9999, li_10000, li_23338, li_26672, li_30000, li_99999, li_150000, li_300000, pk_mul, nI_add, pk_sub, nI_clamp, nI_1, nI_p1, nI_a0, nI_0a, nI_m0, nI_m1, cl_0, cl_1, z01, z11, nI_leI, nI_ltI, nI_eq, nz_lt0, nz_le, nz_eq0, nz_pos, nz_le0, nz_eq1, nz_lt1, nz_ge1, nz_le1, nz_gt1, nz_vp, nz_vp0, nz_vp1, six_nI, vix_nI, bix_nI, pix_nI, fix_nI, gix_nI, rix_nI, zix_nI, pix_0, pix_1, bix_0, fix_0, fix_1, rix_1, true_and, and_true]
    refine ⟨by omega, fun h => absurd h (by omega), fun _ => ⟨fun c v4 e4 v5 e5 => ?_, fun c => ⟨fun c2 v4 e4 v5 e5 => ?_, fun c2 => ⟨⟨by omega, by omega⟩, fun c3 v4 e4 v5 e5 => ?_, fun c3 v4 e4 v5 e5 => ?_⟩⟩⟩⟩
    · subst e4 e5
      rw [if_neg (fun z => z.1 c)] at hp
      exact ih (o + 1) f _ (by omega) (by omega) ha hp
    · subst e4 e5
      rw [if_neg (fun z => c2 z.2.1)] at hp
      exact ih (o + 1) f _ (by omega) (by omega) ha hp
    · subst e4 e5
      rw [if_neg (fun z => z.2.2 c3)] at hp
      exact ih (o + 1) f _ (by omega) (by omega) ha hp
    · subst e4 e5
      rw [if_pos ⟨c, by simpa using c2, c3⟩] at hp
      exact ih (o + 1) f _ (by omega) (by omega) vz1 hp
theorem k_X11_hasOther (l : Launch) (D : va_G) (T : Nat → ClassId) (m0 : Nat) (a : Nat → Nat) (p0 : Int32) (p1 : Int32) (p2 : Int32) (r : Nat → Int32) (q : Nat → Nat → Int32) (h : WF (q 0) ∧ gix p0 ∧ six p1) : RMi l yX11_hasOther (ws_X11_hasOther) rm_X11_hasOther D T m0 a [.ref m0, .int p0, .int p1, .int p2] r q (fun v u => v = (hoF (q 0) (iv p0) (iv p1) p2) ∧ u = (r, q)) := c_X11_hasOther l D T m0 a p0 p1 p2 r q _ <|
  (by
    obtain ⟨hw, ⟨g, hg, rfl⟩, ⟨s, hs, rfl⟩⟩ := h
    obtain ⟨n1, hn1, hm⟩ := hw.2.1
    unfold wp_X11_hasOther
    refine ⟨n1 + 1, rl_hasOther (P := fun v u => v = hoF (q 0) (iv (nI g)) (iv (nI s)) p2 ∧ u = (r, q)) hg hs hn1 hm n1 0 _ 0 (by omega) (by omega) vz0 ⟨?_, rfl⟩⟩
    unfold hoF
    simp (disch := omega) only [nI_clamp, hm])
abbrev ws_X11_clashes : List Cond := Cond.code yX11_clashes cX11_clashes 4 (some .boolean) :: W0
abbrev rm_X11_clashes : Room := ({ frames := 2, cells := 0, slots := 0, locals := 47 } : Room)
def wp_X11_clashes (P : Int32 → RST → Prop) (p0 : Int32) (p1 : Int32) (r : Nat → Int32) (q : Nat → Nat → Int32) : Prop := (six p1 ∧ pix 2) ∧ (∀ v2 : Int32, v2 = (q 0 (14 + 26 * iv p1 + iv 2)) → (((hasF v2 0) = 0 → (((hasF v2 1) = 0 → (P 0 (r, q))) ∧ (¬ (hasF v2 1) = 0 → ((WF (q 0) ∧ gix p0 ∧ six p1) ∧ (((hoF (q 0) (iv p0) (iv p1) 0) = 0 → (P 0 (r, q))) ∧ (¬ (hoF (q 0) (iv p0) (iv p1) 0) = 0 → (P 1 (r, q)))))))) ∧ (¬ (hasF v2 0) = 0 → ((WF (q 0) ∧ gix p0 ∧ six p1) ∧ ((¬ (hoF (q 0) (iv p0) (iv p1) 1) = 0 → (P 1 (r, q))) ∧ ((hoF (q 0) (iv p0) (iv p1) 1) = 0 → (((hasF v2 1) = 0 → (P 0 (r, q))) ∧ (¬ (hasF v2 1) = 0 → ((WF (q 0) ∧ gix p0 ∧ six p1) ∧ (((hoF (q 0) (iv p0) (iv p1) 0) = 0 → (P 0 (r, q))) ∧ (¬ (hoF (q 0) (iv p0) (iv p1) 0) = 0 → (P 1 (r, q)))))))))))))
set_option maxRecDepth 100000 in
set_option maxHeartbeats 4000000 in
theorem t_X11_clashes {p : Program} {l : Launch} {e : Env} {s : State} {m : MethodId} {args : Array Value} {below : List Frame} {meth : Method} {c : Code} {D : va_G} {A : Nat → Prop} {T : Nat → ClassId} {m0 : Nat} {a : Nat → Nat} (C : GC p s m args meth c cX11_clashes "FreightRaterModel" (ws_X11_clashes) 4 D A (zty T)) (hr : meth.sig.returnType = (some .boolean)) (P : Int32 → RST → Prop) : ∀ (p0 : Int32) (p1 : Int32) (r : Nat → Int32) (q : Nat → Nat → Int32), wp_X11_clashes P p0 p1 r q → GW p l e rm_X11_clashes s m args below meth c D A 4 0 0 (MQ below (va_Qi P (RE D T m0 a A) A) args s 0 0 A) (RW m0 a T r q) 0 0 0 [(0, .ref m0), (1, .int p0), (2, .int p1)] [] := by
  have hw : ∀ {w : Cond}, w ∈ W0 → w.before args s = true := fun h => C.2.2.2.2.1 _ (List.mem_cons_of_mem _ h)
  intro p0 p1 r q h
  unfold wp_X11_clashes at h
  refine g_aload_n C dX11_clashes_0 rfl 0 rfl ?_
  refine g_iload_n C dX11_clashes_1 rfl 2 rfl ?_
  refine g_iconst (v := 2) C dX11_clashes_2 (by decide) ?_
  obtain ⟨g1, h⟩ := h
  refine gr_callVf C [.int p1, .int 2] rfl (k_X11_of l D T m0 a p1 2 r q g1) (w0_V 2 C.2.2.2.2.1 kw_2127 kw_2129 ks_79 kw_9 kw_2130 rfl rfl (by decide +kernel) ⟨by decide, by decide⟩) rfl (Nat.le_of_ble_eq_true rfl) (Nat.zero_le _) (Nat.zero_le _) dX11_clashes_3 ?_
  refine g_topi (fun v2 ev2 => ?_)
  replace h := h v2 ev2
  refine g_istore_n (lv' := [(3, .int v2), (0, .ref m0), (1, .int p0), (2, .int p1)]) C dX11_clashes_6 rfl (by decide) rfl ?_
  refine g_iload_n C dX11_clashes_7 rfl 0 rfl ?_
  refine g_iconst (v := 0) C dX11_clashes_8 (by decide) ?_
  refine gr_callSf C [.int v2, .int 0] rfl (k_X11_has l D T m0 a v2 0 r q) (w0_S 2 C.2.2.2.2.1 kw_2178 kw_2179 kw_9 kw_2180 rfl rfl (by decide +kernel) ⟨by decide, by decide⟩) rfl (Nat.le_of_ble_eq_true rfl) (Nat.zero_le _) (Nat.zero_le _) dX11_clashes_9 ?_
  refine g_if_eq (tgt := 25) C dX11_clashes_12 (by decide) (fun z3 => ?_) (fun z3 => ?_)
  · replace h := h.1 z3
    refine g_iload_n C dX11_clashes_25 rfl 0 rfl ?_
    refine g_iconst (v := 1) C dX11_clashes_26 (by decide) ?_
    refine gr_callSf C [.int v2, .int 1] rfl (k_X11_has l D T m0 a v2 1 r q) (w0_S 2 C.2.2.2.2.1 kw_2178 kw_2179 kw_9 kw_2180 rfl rfl (by decide +kernel) ⟨by decide, by decide⟩) rfl (Nat.le_of_ble_eq_true rfl) (Nat.zero_le _) (Nat.zero_le _) dX11_clashes_27 ?_
    refine g_if_eq (tgt := 47) C dX11_clashes_30 (by decide) (fun z4 => ?_) (fun z4 => ?_)
    · replace h := h.1 z4
      refine g_iconst (v := 0) C dX11_clashes_47 (by decide) ?_
      exact gr_zret C hr vz0 dX11_clashes_48 h
    · replace h := h.2 z4
      refine g_aload_n C dX11_clashes_33 rfl 1 rfl ?_
      refine g_iload_n C dX11_clashes_34 rfl 2 rfl ?_
      refine g_iload_n C dX11_clashes_35 rfl 3 rfl ?_
      refine g_iconst (v := 0) C dX11_clashes_36 (by decide) ?_
      obtain ⟨g5, h⟩ := h
      refine gr_callVf C [.int p0, .int p1, .int 0] rfl (k_X11_hasOther l D T m0 a p0 p1 0 r q g5) (w0_V 3 C.2.2.2.2.1 kw_2193 kw_2195 ks_90 kw_9 kw_2196 rfl rfl (by decide +kernel) ⟨by decide, by decide⟩) rfl (Nat.le_of_ble_eq_true rfl) (Nat.zero_le _) (Nat.zero_le _) dX11_clashes_37 ?_
      refine g_if_eq (tgt := 47) C dX11_clashes_40 (by decide) (fun z6 => ?_) (fun z6 => ?_)
      · replace h := h.1 z6
        refine g_iconst (v := 0) C dX11_clashes_47 (by decide) ?_
        exact gr_zret C hr vz0 dX11_clashes_48 h
      · replace h := h.2 z6
        refine g_iconst (v := 1) C dX11_clashes_43 (by decide) ?_
        refine g_goto (tgt := 48) C dX11_clashes_44 (by decide) ?_
        exact gr_zret C hr vz1 dX11_clashes_48 h
  · replace h := h.2 z3
    refine g_aload_n C dX11_clashes_15 rfl 1 rfl ?_
    refine g_iload_n C dX11_clashes_16 rfl 2 rfl ?_
    refine g_iload_n C dX11_clashes_17 rfl 3 rfl ?_
    refine g_iconst (v := 1) C dX11_clashes_18 (by decide) ?_
    obtain ⟨g7, h⟩ := h
    refine gr_callVf C [.int p0, .int p1, .int 1] rfl (k_X11_hasOther l D T m0 a p0 p1 1 r q g7) (w0_V 3 C.2.2.2.2.1 kw_2193 kw_2195 ks_90 kw_9 kw_2196 rfl rfl (by decide +kernel) ⟨by decide, by decide⟩) rfl (Nat.le_of_ble_eq_true rfl) (Nat.zero_le _) (Nat.zero_le _) dX11_clashes_19 ?_
    refine g_if_ne (tgt := 43) C dX11_clashes_22 (by decide) (fun z8 => ?_) (fun z8 => ?_)
    · replace h := h.1 z8
      refine g_iconst (v := 1) C dX11_clashes_43 (by decide) ?_
      refine g_goto (tgt := 48) C dX11_clashes_44 (by decide) ?_
      exact gr_zret C hr vz1 dX11_clashes_48 h
    · replace h := h.2 z8
      refine g_iload_n C dX11_clashes_25 rfl 0 rfl ?_
      refine g_iconst (v := 1) C dX11_clashes_26 (by decide) ?_
      refine gr_callSf C [.int v2, .int 1] rfl (k_X11_has l D T m0 a v2 1 r q) (w0_S 2 C.2.2.2.2.1 kw_2178 kw_2179 kw_9 kw_2180 rfl rfl (by decide +kernel) ⟨by decide, by decide⟩) rfl (Nat.le_of_ble_eq_true rfl) (Nat.zero_le _) (Nat.zero_le _) dX11_clashes_27 ?_
      refine g_if_eq (tgt := 47) C dX11_clashes_30 (by decide) (fun z9 => ?_) (fun z9 => ?_)
      · replace h := h.1 z9
        refine g_iconst (v := 0) C dX11_clashes_47 (by decide) ?_
        exact gr_zret C hr vz0 dX11_clashes_48 h
      · replace h := h.2 z9
        refine g_aload_n C dX11_clashes_33 rfl 1 rfl ?_
        refine g_iload_n C dX11_clashes_34 rfl 2 rfl ?_
        refine g_iload_n C dX11_clashes_35 rfl 3 rfl ?_
        refine g_iconst (v := 0) C dX11_clashes_36 (by decide) ?_
        obtain ⟨g10, h⟩ := h
        refine gr_callVf C [.int p0, .int p1, .int 0] rfl (k_X11_hasOther l D T m0 a p0 p1 0 r q g10) (w0_V 3 C.2.2.2.2.1 kw_2193 kw_2195 ks_90 kw_9 kw_2196 rfl rfl (by decide +kernel) ⟨by decide, by decide⟩) rfl (Nat.le_of_ble_eq_true rfl) (Nat.zero_le _) (Nat.zero_le _) dX11_clashes_37 ?_
        refine g_if_eq (tgt := 47) C dX11_clashes_40 (by decide) (fun z11 => ?_) (fun z11 => ?_)
        · replace h := h.1 z11
          refine g_iconst (v := 0) C dX11_clashes_47 (by decide) ?_
          exact gr_zret C hr vz0 dX11_clashes_48 h
        · replace h := h.2 z11
          refine g_iconst (v := 1) C dX11_clashes_43 (by decide) ?_
          refine g_goto (tgt := 48) C dX11_clashes_44 (by decide) ?_
          exact gr_zret C hr vz1 dX11_clashes_48 h
theorem c_X11_clashes (l : Launch) (D : va_G) (T : Nat → ClassId) (m0 : Nat) (a : Nat → Nat) (p0 : Int32) (p1 : Int32) (r : Nat → Int32) (q : Nat → Nat → Int32) (P : Int32 → RST → Prop) (h : wp_X11_clashes P p0 p1 r q) : RMi l yX11_clashes (ws_X11_clashes) rm_X11_clashes D T m0 a [.ref m0, .int p0, .int p1] r q P := gr_meti (by decide) rfl rfl (Nat.le_of_ble_eq_true rfl) (fun p e s m args below meth c A C hr => t_X11_clashes C hr P p0 p1 r q h)
theorem k_X11_clashes (l : Launch) (D : va_G) (T : Nat → ClassId) (m0 : Nat) (a : Nat → Nat) (p0 : Int32) (p1 : Int32) (r : Nat → Int32) (q : Nat → Nat → Int32) (h : WF (q 0) ∧ gix p0 ∧ six p1) : RMi l yX11_clashes (ws_X11_clashes) rm_X11_clashes D T m0 a [.ref m0, .int p0, .int p1] r q (fun v u => v = (clF (q 0) (iv p0) (iv p1)) ∧ u = (r, q)) := c_X11_clashes l D T m0 a p0 p1 r q _ <|
  (by
    obtain ⟨hw, hg, hs⟩ := h
    unfold wp_X11_clashes
    refine ⟨⟨hs, by simp (disch := omega) only [li_2, li_3, li_4, li_5, li_6, li_7, li_8, li_9, li_10, li_12, li_14, li_20, li_26, li_30, li_31, li_36, li_38, li_47, li_48, li_50, li_57, li_58, li_80, li_98, li_99, li_100, li_102, li_104, li_105, li_108, li_109, li_110, li_114, li_115, li_119, li_122, li_137, li_146, li_147, li_148, li_149, li_150, li_200, li_255, li_256, li_274, li_510, li_512, li_640, li_999, li_1000, li_1024, li_3334, li_5000, li_9999, li_10000, li_23338, li_26672, li_30000, li_99999, li_150000, li_300000, pk_mul, nI_add, pk_sub, nI_clamp, nI_1, nI_p1, nI_a0, nI_0a, nI_m0, nI_m1, cl_0, cl_1, z01, z11, nI_leI, nI_ltI, nI_eq, nz_lt0, nz_le, nz_eq0, nz_pos, nz_le0, nz_eq1, nz_lt1, nz_ge1, nz_le1, nz_gt1, nz_vp, nz_vp0, nz_vp1, six_nI, vix_nI, bix_nI, pix_nI, fix_nI, gix_nI, rix_nI, zix_nI, pix_0, pix_1, bix_0, fix_0, fix_1, rix_1, true_and, and_true]; omega⟩, fun v2 e2 => ?_⟩
    have e2' : v2 = q 0 (14 + 26 * iv p1 + 2) := e2
    subst e2'
    refine ⟨fun c => ⟨fun c2 => ⟨?_, rfl⟩, fun c2 => ⟨⟨hw, hg, hs⟩, fun c3 => ⟨?_, rfl⟩, fun c3 => ⟨?_, rfl⟩⟩⟩, fun c => ⟨⟨hw, hg, hs⟩, fun c2 => ⟨?_, rfl⟩, fun c2 => ⟨fun c3 => ⟨?_, rfl⟩, fun c3 => ⟨⟨hw, hg, hs⟩, fun c4 => ⟨?_, rfl⟩, fun c4 => ⟨?_, rfl⟩⟩⟩⟩⟩
    all_goals (unfold clF; simp_all))
abbrev ws_X11_isReason : List Cond := Cond.code yX11_isReason cX11_isReason 5 (some .boolean) :: W0
abbrev rm_X11_isReason : Room := ({ frames := 3, cells := 0, slots := 0, locals := 70 } : Room)
def wp_X11_isReason (P : Int32 → RST → Prop) (p0 : Int32) (p1 : Int32) (p2 : Int32) (r : Nat → Int32) (q : Nat → Nat → Int32) : Prop := (gix p1 ∧ ¬ p1 = (0 : Int32)) ∧ (∀ v2 : Int32, v2 = (nI (lowN (iv p1))) → ((p0 = 1 → ((six p2 ∧ pix 4) ∧ ((¬ (q 0 (14 + 26 * iv p2 + iv 4)) = 0 → (P 0 (r, q))) ∧ ((q 0 (14 + 26 * iv p2 + iv 4)) = 0 → (P 1 (r, q)))))) ∧ (¬ p0 = 1 → ((p0 = 2 → ((six p2 ∧ pix 1) ∧ ((six v2 ∧ pix 1) ∧ (((q 0 (14 + 26 * iv p2 + iv 1)) = (q 0 (14 + 26 * iv v2 + iv 1)) → (P 0 (r, q))) ∧ (¬ (q 0 (14 + 26 * iv p2 + iv 1)) = (q 0 (14 + 26 * iv v2 + iv 1)) → (P 1 (r, q))))))) ∧ (¬ p0 = 2 → ((p0 = 4 → ((six p2 ∧ pix 0) ∧ ((WF (q 0) ∧ vix (r 18)) ∧ ((¬ (zIn (q 0) (iv (r 18)) (q 0 (14 + 26 * iv p2 + iv 0))) = 0 → (P 0 (r, q))) ∧ ((zIn (q 0) (iv (r 18)) (q 0 (14 + 26 * iv p2 + iv 0))) = 0 → (P 1 (r, q))))))) ∧ (¬ p0 = 4 → ((p0 = 5 → ((six p2 ∧ pix 0) ∧ ((WF (q 0) ∧ vix (r 18)) ∧ ((six v2 ∧ pix 0) ∧ ((WF (q 0) ∧ vix (r 18)) ∧ (((zIn (q 0) (iv (r 18)) (q 0 (14 + 26 * iv p2 + iv 0))) = (zIn (q 0) (iv (r 18)) (q 0 (14 + 26 * iv v2 + iv 0))) → (P 0 (r, q))) ∧ (¬ (zIn (q 0) (iv (r 18)) (q 0 (14 + 26 * iv p2 + iv 0))) = (zIn (q 0) (iv (r 18)) (q 0 (14 + 26 * iv v2 + iv 0))) → (P 1 (r, q))))))))) ∧ (¬ p0 = 5 → ((WF (q 0) ∧ gix p1 ∧ six p2) ∧ (vz (clF (q 0) (iv p1) (iv p2)) ∧ P (clF (q 0) (iv p1) (iv p2)) (r, q))))))))))))
set_option maxRecDepth 100000 in
set_option maxHeartbeats 4000000 in
theorem t_X11_isReason {p : Program} {l : Launch} {e : Env} {s : State} {m : MethodId} {args : Array Value} {below : List Frame} {meth : Method} {c : Code} {D : va_G} {A : Nat → Prop} {T : Nat → ClassId} {m0 : Nat} {a : Nat → Nat} (C : GC p s m args meth c cX11_isReason "FreightRaterModel" (ws_X11_isReason) 5 D A (zty T)) (hr : meth.sig.returnType = (some .boolean)) (P : Int32 → RST → Prop) : ∀ (p0 : Int32) (p1 : Int32) (p2 : Int32) (r : Nat → Int32) (q : Nat → Nat → Int32), wp_X11_isReason P p0 p1 p2 r q → GW p l e rm_X11_isReason s m args below meth c D A 5 0 0 (MQ below (va_Qi P (RE D T m0 a A) A) args s 0 0 A) (RW m0 a T r q) 0 0 0 [(0, .ref m0), (1, .int p0), (2, .int p1), (3, .int p2)] [] := by
  have hw : ∀ {w : Cond}, w ∈ W0 → w.before args s = true := fun h => C.2.2.2.2.1 _ (List.mem_cons_of_mem _ h)
  intro p0 p1 p2 r q h
  unfold wp_X11_isReason at h
  refine g_iload_n C dX11_isReason_0 rfl 2 rfl ?_
  obtain ⟨g1, h⟩ := h
  refine gr_callSf C [.int p1] rfl (k_X11_lowest l D T m0 a p1 r q g1) (w0_S 1 C.2.2.2.2.1 kw_2175 kw_2176 kw_9 kw_2177 rfl rfl (by decide +kernel) ⟨by decide, by decide⟩) rfl (Nat.le_of_ble_eq_true rfl) (Nat.zero_le _) (Nat.zero_le _) dX11_isReason_1 ?_
  refine g_topi (fun v2 ev2 => ?_)
  replace h := h v2 ev2
  refine g_istore (lv' := [(4, .int v2), (0, .ref m0), (1, .int p0), (2, .int p1), (3, .int p2)]) C dX11_isReason_4 (by decide) rfl ?_
  refine g_iload_n C dX11_isReason_6 rfl 2 rfl ?_
  rcases Decidable.em (p0 = 1) with z3 | z3
  · refine g_tableIn (off := 33) (tgt := 40) C dX11_isReason_7 (by rw [z3]; decide) (by rw [z3]; decide) (by rw [z3]; decide) (by decide) ?_
    replace h := h.1 z3
    refine g_aload_n C dX11_isReason_40 rfl 1 rfl ?_
    refine g_iload_n C dX11_isReason_41 rfl 4 rfl ?_
    refine g_iconst (v := 4) C dX11_isReason_42 (by decide) ?_
    obtain ⟨g4, h⟩ := h
    refine gr_callVf C [.int p2, .int 4] rfl (k_X11_of l D T m0 a p2 4 r q g4) (w0_V 2 C.2.2.2.2.1 kw_2127 kw_2129 ks_79 kw_9 kw_2130 rfl rfl (by decide +kernel) ⟨by decide, by decide⟩) rfl (Nat.le_of_ble_eq_true rfl) (Nat.zero_le _) (Nat.zero_le _) dX11_isReason_43 ?_
    refine g_if_ne (tgt := 53) C dX11_isReason_46 (by decide) (fun z5 => ?_) (fun z5 => ?_)
    · replace h := h.1 z5
      refine g_iconst (v := 0) C dX11_isReason_53 (by decide) ?_
      exact gr_zret C hr vz0 dX11_isReason_54 h
    · replace h := h.2 z5
      refine g_iconst (v := 1) C dX11_isReason_49 (by decide) ?_
      refine g_goto (tgt := 54) C dX11_isReason_50 (by decide) ?_
      exact gr_zret C hr vz1 dX11_isReason_54 h
  replace h := h.2 z3
  rcases Decidable.em (p0 = 2) with z6 | z6
  · refine g_tableIn (off := 48) (tgt := 55) C dX11_isReason_7 (by rw [z6]; decide) (by rw [z6]; decide) (by rw [z6]; decide) (by decide) ?_
    replace h := h.1 z6
    refine g_aload_n C dX11_isReason_55 rfl 1 rfl ?_
    refine g_iload_n C dX11_isReason_56 rfl 4 rfl ?_
    refine g_iconst (v := 1) C dX11_isReason_57 (by decide) ?_
    obtain ⟨g7, h⟩ := h
    refine gr_callVf C [.int p2, .int 1] rfl (k_X11_of l D T m0 a p2 1 r q g7) (w0_V 2 C.2.2.2.2.1 kw_2127 kw_2129 ks_79 kw_9 kw_2130 rfl rfl (by decide +kernel) ⟨by decide, by decide⟩) rfl (Nat.le_of_ble_eq_true rfl) (Nat.zero_le _) (Nat.zero_le _) dX11_isReason_58 ?_
    refine g_aload_n C dX11_isReason_61 rfl 1 rfl ?_
    refine g_iload C dX11_isReason_62 0 rfl ?_
    refine g_iconst (v := 1) C dX11_isReason_64 (by decide) ?_
    obtain ⟨g8, h⟩ := h
    refine gr_callVf C [.int v2, .int 1] rfl (k_X11_of l D T m0 a v2 1 r q g8) (w0_V 2 C.2.2.2.2.1 kw_2127 kw_2129 ks_79 kw_9 kw_2130 rfl rfl (by decide +kernel) ⟨by decide, by decide⟩) rfl (Nat.le_of_ble_eq_true rfl) (Nat.zero_le _) (Nat.zero_le _) dX11_isReason_65 ?_
    refine g_icmp_eq (tgt := 75) C dX11_isReason_68 (by decide) (fun z9 => ?_) (fun z9 => ?_)
    · replace h := h.1 z9
      refine g_iconst (v := 0) C dX11_isReason_75 (by decide) ?_
      exact gr_zret C hr vz0 dX11_isReason_76 h
    · replace h := h.2 z9
      refine g_iconst (v := 1) C dX11_isReason_71 (by decide) ?_
      refine g_goto (tgt := 76) C dX11_isReason_72 (by decide) ?_
      exact gr_zret C hr vz1 dX11_isReason_76 h
  replace h := h.2 z6
  rcases Decidable.em (p0 = 4) with z10 | z10
  · refine g_tableIn (off := 70) (tgt := 77) C dX11_isReason_7 (by rw [z10]; decide) (by rw [z10]; decide) (by rw [z10]; decide) (by decide) ?_
    replace h := h.1 z10
    refine g_aload_n C dX11_isReason_77 rfl 1 rfl ?_
    refine g_aload_n C dX11_isReason_78 rfl 1 rfl ?_
    refine gr_get C iwx_X11 18 (hw kw_1827) (by decide) rfl rfl dX11_isReason_79 ?_
    refine g_aload_n C dX11_isReason_82 rfl 1 rfl ?_
    refine g_iload_n C dX11_isReason_83 rfl 4 rfl ?_
    refine g_iconst (v := 0) C dX11_isReason_84 (by decide) ?_
    obtain ⟨g11, h⟩ := h
    refine gr_callVf C [.int p2, .int 0] rfl (k_X11_of l D T m0 a p2 0 r q g11) (w0_V 2 C.2.2.2.2.1 kw_2127 kw_2129 ks_79 kw_9 kw_2130 rfl rfl (by decide +kernel) ⟨by decide, by decide⟩) rfl (Nat.le_of_ble_eq_true rfl) (Nat.zero_le _) (Nat.zero_le _) dX11_isReason_85 ?_
    obtain ⟨g12, h⟩ := h
    refine gr_callVf C [.int (r 18), .int (q 0 (14 + 26 * iv p2 + iv 0))] rfl (k_X11_zoneIn l D T m0 a (r 18) (q 0 (14 + 26 * iv p2 + iv 0)) r q g12) (w0_V 2 C.2.2.2.2.1 kw_1989 kw_1991 ks_56 kw_9 kw_1992 rfl rfl (by decide +kernel) ⟨by decide, by decide⟩) rfl (Nat.le_of_ble_eq_true rfl) (Nat.zero_le _) (Nat.zero_le _) dX11_isReason_88 ?_
    refine g_if_ne (tgt := 98) C dX11_isReason_91 (by decide) (fun z13 => ?_) (fun z13 => ?_)
    · replace h := h.1 z13
      refine g_iconst (v := 0) C dX11_isReason_98 (by decide) ?_
      exact gr_zret C hr vz0 dX11_isReason_99 h
    · replace h := h.2 z13
      refine g_iconst (v := 1) C dX11_isReason_94 (by decide) ?_
      refine g_goto (tgt := 99) C dX11_isReason_95 (by decide) ?_
      exact gr_zret C hr vz1 dX11_isReason_99 h
  replace h := h.2 z10
  rcases Decidable.em (p0 = 5) with z14 | z14
  · refine g_tableIn (off := 93) (tgt := 100) C dX11_isReason_7 (by rw [z14]; decide) (by rw [z14]; decide) (by rw [z14]; decide) (by decide) ?_
    replace h := h.1 z14
    refine g_aload_n C dX11_isReason_100 rfl 1 rfl ?_
    refine g_aload_n C dX11_isReason_101 rfl 1 rfl ?_
    refine gr_get C iwx_X11 18 (hw kw_1827) (by decide) rfl rfl dX11_isReason_102 ?_
    refine g_aload_n C dX11_isReason_105 rfl 1 rfl ?_
    refine g_iload_n C dX11_isReason_106 rfl 4 rfl ?_
    refine g_iconst (v := 0) C dX11_isReason_107 (by decide) ?_
    obtain ⟨g15, h⟩ := h
    refine gr_callVf C [.int p2, .int 0] rfl (k_X11_of l D T m0 a p2 0 r q g15) (w0_V 2 C.2.2.2.2.1 kw_2127 kw_2129 ks_79 kw_9 kw_2130 rfl rfl (by decide +kernel) ⟨by decide, by decide⟩) rfl (Nat.le_of_ble_eq_true rfl) (Nat.zero_le _) (Nat.zero_le _) dX11_isReason_108 ?_
    obtain ⟨g16, h⟩ := h
    refine gr_callVf C [.int (r 18), .int (q 0 (14 + 26 * iv p2 + iv 0))] rfl (k_X11_zoneIn l D T m0 a (r 18) (q 0 (14 + 26 * iv p2 + iv 0)) r q g16) (w0_V 2 C.2.2.2.2.1 kw_1989 kw_1991 ks_56 kw_9 kw_1992 rfl rfl (by decide +kernel) ⟨by decide, by decide⟩) rfl (Nat.le_of_ble_eq_true rfl) (Nat.zero_le _) (Nat.zero_le _) dX11_isReason_111 ?_
    refine g_aload_n C dX11_isReason_114 rfl 1 rfl ?_
    refine g_aload_n C dX11_isReason_115 rfl 1 rfl ?_
    refine gr_get C iwx_X11 18 (hw kw_1827) (by decide) rfl rfl dX11_isReason_116 ?_
    refine g_aload_n C dX11_isReason_119 rfl 1 rfl ?_
    refine g_iload C dX11_isReason_120 0 rfl ?_
    refine g_iconst (v := 0) C dX11_isReason_122 (by decide) ?_
    obtain ⟨g17, h⟩ := h
    refine gr_callVf C [.int v2, .int 0] rfl (k_X11_of l D T m0 a v2 0 r q g17) (w0_V 2 C.2.2.2.2.1 kw_2127 kw_2129 ks_79 kw_9 kw_2130 rfl rfl (by decide +kernel) ⟨by decide, by decide⟩) rfl (Nat.le_of_ble_eq_true rfl) (Nat.zero_le _) (Nat.zero_le _) dX11_isReason_123 ?_
    obtain ⟨g18, h⟩ := h
    refine gr_callVf C [.int (r 18), .int (q 0 (14 + 26 * iv v2 + iv 0))] rfl (k_X11_zoneIn l D T m0 a (r 18) (q 0 (14 + 26 * iv v2 + iv 0)) r q g18) (w0_V 2 C.2.2.2.2.1 kw_1989 kw_1991 ks_56 kw_9 kw_1992 rfl rfl (by decide +kernel) ⟨by decide, by decide⟩) rfl (Nat.le_of_ble_eq_true rfl) (Nat.zero_le _) (Nat.zero_le _) dX11_isReason_126 ?_
    refine g_icmp_eq (tgt := 136) C dX11_isReason_129 (by decide) (fun z19 => ?_) (fun z19 => ?_)
    · replace h := h.1 z19
      refine g_iconst (v := 0) C dX11_isReason_136 (by decide) ?_
      exact gr_zret C hr vz0 dX11_isReason_137 h
    · replace h := h.2 z19
      refine g_iconst (v := 1) C dX11_isReason_132 (by decide) ?_
      refine g_goto (tgt := 137) C dX11_isReason_133 (by decide) ?_
      exact gr_zret C hr vz1 dX11_isReason_137 h
  replace h := h.2 z14
  refine g_tableD (tgt := 138) C dX11_isReason_7 (by decide) (fun j hj => ?_) (by decide) ?_
  · rcases (show j = 0 ∨ j = 1 ∨ j = 2 ∨ j = 3 ∨ j = 4 by have hj2 : j < 5 := hj; omega) with rfl | rfl | rfl | rfl | rfl <;> first | exact Or.inr rfl | exact Or.inl (by first | exact lv_neT z3 rfl | exact lv_neT z6 rfl | exact lv_neT z10 rfl | exact lv_neT z14 rfl)
  refine g_aload_n C dX11_isReason_138 rfl 1 rfl ?_
  refine g_iload_n C dX11_isReason_139 rfl 3 rfl ?_
  refine g_iload_n C dX11_isReason_140 rfl 4 rfl ?_
  obtain ⟨g20, h⟩ := h
  refine gr_callVf C [.int p1, .int p2] rfl (k_X11_clashes l D T m0 a p1 p2 r q g20) (w0_V 2 C.2.2.2.2.1 kw_2189 kw_2191 ks_89 kw_9 kw_2192 rfl rfl (by decide +kernel) ⟨by decide, by decide⟩) rfl (Nat.le_of_ble_eq_true rfl) (Nat.zero_le _) (Nat.zero_le _) dX11_isReason_141 ?_
  exact gr_zret C hr h.1 dX11_isReason_144 h.2
theorem c_X11_isReason (l : Launch) (D : va_G) (T : Nat → ClassId) (m0 : Nat) (a : Nat → Nat) (p0 : Int32) (p1 : Int32) (p2 : Int32) (r : Nat → Int32) (q : Nat → Nat → Int32) (P : Int32 → RST → Prop) (h : wp_X11_isReason P p0 p1 p2 r q) : RMi l yX11_isReason (ws_X11_isReason) rm_X11_isReason D T m0 a [.ref m0, .int p0, .int p1, .int p2] r q P := gr_meti (by decide) rfl rfl (Nat.le_of_ble_eq_true rfl) (fun p e s m args below meth c A C hr => t_X11_isReason C hr P p0 p1 p2 r q h)
theorem k_X11_isReason (l : Launch) (D : va_G) (T : Nat → ClassId) (m0 : Nat) (a : Nat → Nat) (p0 : Int32) (p1 : Int32) (p2 : Int32) (r : Nat → Int32) (q : Nat → Nat → Int32) (h : WF (q 0) ∧ rix p0 ∧ (gix p1 ∧ ¬ p1 = (0 : Int32)) ∧ six p2 ∧ ((iv p0 = 4 ∨ iv p0 = 5) → vix (r 18))) : RMi l yX11_isReason (ws_X11_isReason) rm_X11_isReason D T m0 a [.ref m0, .int p0, .int p1, .int p2] r q (fun v u => v = (rsF (q 0) (iv (r 18)) (iv p0) (iv p1) (iv p2)) ∧ u = (r, q)) := c_X11_isReason l D T m0 a p0 p1 p2 r q _ <|
  (by
    obtain ⟨hw, ⟨rs, hrs, rfl⟩, ⟨⟨g, hg, rfl⟩, hg0⟩, ⟨s, hs, rfl⟩, hv⟩ := h
    have h0 : g ≠ 0 := fun e => hg0 (by rw [e]; rfl)
    have hl := low_lt hg h0
    unfold wp_X11_isReason
    simp (disch := omega) only [li_2, li_3, li_4, li_5, li_6, li_7, li_8, li_9, li_10, li_12, li_14, li_20, li_26, li_30, li_31, li_36, li_38, li_47, li_48, li_50, li_57, li_58, li_80, li_98, li_99, li_100, li_102, li_104, li_105, li_108, li_109, li_110, li_114, li_115, li_119, li_122, li_137, li_146, li_147, li_148, li_149, li_150, li_200, li_255, li_256, li_274, li_510, li_512, li_640, li_999, li_1000, li_1024, li_3334, li_5000, li_9999, li_10000, li_23338, li_26672, li_30000, li_99999, li_150000, li_300000, pk_mul, nI_add, pk_sub, nI_clamp, nI_1, nI_p1, nI_a0, nI_0a, nI_m0, nI_m1, cl_0, cl_1, z01, z11, nI_leI, nI_ltI, nI_eq, nz_lt0, nz_le, nz_eq0, nz_pos, nz_le0, nz_eq1, nz_lt1, nz_ge1, nz_le1, nz_gt1, nz_vp, nz_vp0, nz_vp1, six_nI, vix_nI, bix_nI, pix_nI, fix_nI, gix_nI, rix_nI, zix_nI, pix_0, pix_1, bix_0, fix_0, fix_1, rix_1, true_and, and_true] at hv ⊢
    refine ⟨⟨by omega, by omega⟩, fun v2 e2 => ?_⟩
    subst e2
    simp (disch := omega) only [li_2, li_3, li_4, li_5, li_6, li_7, li_8, li_9, li_10, li_12, li_14, li_20, li_26, li_30, li_31, li_36, li_38, li_47, li_48, li_50, li_57, li_58, li_80, li_98, li_99, li_100, li_102, li_104, li_105, li_108, li_109, li_110, li_114, li_115, li_119, li_122, li_137, li_146, li_147, li_148, li_149, li_150, li_200, li_255, li_256, li_274, li_510, li_512, li_640, li_999, li_1000, li_1024, li_3334, li_5000, li_9999, li_10000, li_23338, li_26672, li_30000, li_99999, li_150000, li_300000, pk_mul, nI_add, pk_sub, nI_clamp, nI_1, nI_p1, nI_a0, nI_0a, nI_m0, nI_m1, cl_0, cl_1, z01, z11, nI_leI, nI_ltI, nI_eq, nz_lt0, nz_le, nz_eq0, nz_pos, nz_le0, nz_eq1, nz_lt1, nz_ge1, nz_le1, nz_gt1, nz_vp, nz_vp0, nz_vp1, six_nI, vix_nI, bix_nI, pix_nI, fix_nI, gix_nI, rix_nI, zix_nI, pix_0, pix_1, bix_0, fix_0, fix_1, rix_1, true_and, and_true]
    repeat' (first | with_reducible apply And.intro | intro)
    all_goals first | omega | exact hw | exact hv (Or.inl (by assumption)) | exact hv (Or.inr (by assumption)) | (unfold clF; split <;> first | exact vz1 | exact vz0) | (unfold rsF; simp_all))
abbrev ws_X11_isFirst : List Cond := Cond.code yX11_isFirst cX11_isFirst 4 (some .boolean) :: W0
abbrev rm_X11_isFirst : Room := ({ frames := 4, cells := 0, slots := 0, locals := 94 } : Room)
def wb_X11_isFirst_2 (rec : Int32 → Int32 → Int32 → (Nat → Int32) → (Nat → Nat → Int32) → Prop) (P : Int32 → RST → Prop) (x1 : Int32) (x2 : Int32) (x3 : Int32) (r : Nat → Int32) (q : Nat → Nat → Int32) : Prop := vp_in 1 3334 ∧ (((q 0 (Int32.toNatClampNeg 1)) ≤ x3 → (P 0 (r, q))) ∧ (¬ (q 0 (Int32.toNatClampNeg 1)) ≤ x3 → (((hasF x2 x3) = 0 → (∀ v4 : Int32, v4 = x3 + 1 → (rec x1 x2 v4 r q))) ∧ (¬ (hasF x2 x3) = 0 → ((WF (q 0) ∧ rix x1 ∧ (gix x2 ∧ ¬ x2 = (0 : Int32)) ∧ six x3 ∧ ((iv x1 = 4 ∨ iv x1 = 5) → vix (r 18))) ∧ (((rsF (q 0) (iv (r 18)) (iv x1) (iv x2) (iv x3)) = 0 → (∀ v7 : Int32, v7 = x3 + 1 → (rec x1 x2 v7 r q))) ∧ (¬ (rsF (q 0) (iv (r 18)) (iv x1) (iv x2) (iv x3)) = 0 → (∀ r8 : Nat → Int32, r8 = va_up r 17 x3 → (P 1 (r8, q))))))))))
def wp_X11_isFirst_2 (P : Int32 → RST → Prop) : Nat → Int32 → Int32 → Int32 → (Nat → Int32) → (Nat → Nat → Int32) → Prop
  | 0 => fun _ _ _ _ _ => False
  | n + 1 => fun x1 x2 x3 r q => wb_X11_isFirst_2 (wp_X11_isFirst_2  P n)  P x1 x2 x3 r q
set_option maxRecDepth 100000 in
set_option maxHeartbeats 4000000 in
theorem t_X11_isFirst_2 {p : Program} {l : Launch} {e : Env} {s : State} {m : MethodId} {args : Array Value} {below : List Frame} {meth : Method} {c : Code} {D : va_G} {A : Nat → Prop} {T : Nat → ClassId} {m0 : Nat} {a : Nat → Nat} (C : GC p s m args meth c cX11_isFirst "FreightRaterModel" (ws_X11_isFirst) 4 D A (zty T)) (hr : meth.sig.returnType = (some .boolean)) (P : Int32 → RST → Prop) : ∀ (n : Nat) (x1 : Int32) (x2 : Int32) (x3 : Int32) (r : Nat → Int32) (q : Nat → Nat → Int32), wp_X11_isFirst_2  P n x1 x2 x3 r q → GW p l e rm_X11_isFirst s m args below meth c D A 4 0 0 (MQ below (va_Qi P (RE D T m0 a A) A) args s 0 0 A) (RW m0 a T r q) 0 0 2 [(0, .ref m0), (1, .int x1), (2, .int x2), (3, .int x3)] [] := by
  have hw : ∀ {w : Cond}, w ∈ W0 → w.before args s = true := fun h => C.2.2.2.2.1 _ (List.mem_cons_of_mem _ h)
  intro n
  induction n with
  | zero => intro x1 x2 x3 r q h; exact h.elim
  | succ n ih =>
    intro x1 x2 x3 r q h
    replace h : wb_X11_isFirst_2 (wp_X11_isFirst_2  P n)  P x1 x2 x3 r q := h
    unfold wb_X11_isFirst_2 at h
    refine g_iload_n C dX11_isFirst_2 rfl 3 rfl ?_
    refine g_aload_n C dX11_isFirst_3 rfl 0 rfl ?_
    refine gr_get C iwx_X11 0 (hw kw_1809) (by decide) rfl rfl dX11_isFirst_4 ?_
    refine g_iconst (v := 1) C dX11_isFirst_7 (by decide) ?_
    obtain ⟨g1, h⟩ := h
    refine gr_ald_0 C g1 dX11_isFirst_8 ?_
    refine g_icmp_ge (tgt := 43) C dX11_isFirst_9 (by decide) (fun z2 => ?_) (fun z2 => ?_)
    · replace h := h.1 z2
      refine g_iconst (v := 0) C dX11_isFirst_43 (by decide) ?_
      exact gr_zret C hr vz0 dX11_isFirst_44 h
    · replace h := h.2 z2
      refine g_iload_n C dX11_isFirst_12 rfl 2 rfl ?_
      refine g_iload_n C dX11_isFirst_13 rfl 3 rfl ?_
      refine gr_callSf C [.int x2, .int x3] rfl (k_X11_has l D T m0 a x2 x3 r q) (w0_S 2 C.2.2.2.2.1 kw_2178 kw_2179 kw_9 kw_2180 rfl rfl (by decide +kernel) ⟨by decide, by decide⟩) rfl (Nat.le_of_ble_eq_true rfl) (Nat.zero_le _) (Nat.zero_le _) dX11_isFirst_14 ?_
      refine g_if_eq (tgt := 37) C dX11_isFirst_17 (by decide) (fun z3 => ?_) (fun z3 => ?_)
      · replace h := h.1 z3
        obtain ⟨v4, ev4⟩ : ∃ y : Int32, y = x3 + 1 := ⟨_, rfl⟩
        replace h := h v4 ev4
        refine g_iinc (v := v4) (lv' := [(3, .int v4), (0, .ref m0), (1, .int x1), (2, .int x2)]) C dX11_isFirst_37 (j := 3) rfl (by rw [ev4]; rfl) (by decide) rfl ?_
        refine g_goto (tgt := 2) C dX11_isFirst_40 (by decide) ?_
        refine g_locals [1, 2, 3, 0] rfl ?_
        exact ih x1 x2 v4 r q h
      · replace h := h.2 z3
        refine g_aload_n C dX11_isFirst_20 rfl 0 rfl ?_
        refine g_iload_n C dX11_isFirst_21 rfl 1 rfl ?_
        refine g_iload_n C dX11_isFirst_22 rfl 2 rfl ?_
        refine g_iload_n C dX11_isFirst_23 rfl 3 rfl ?_
        obtain ⟨g5, h⟩ := h
        refine gr_callVf C [.int x1, .int x2, .int x3] rfl (k_X11_isReason l D T m0 a x1 x2 x3 r q g5) (w0_V 3 C.2.2.2.2.1 kw_2185 kw_2187 ks_88 kw_9 kw_2188 rfl rfl (by decide +kernel) ⟨by decide, by decide⟩) rfl (Nat.le_of_ble_eq_true rfl) (Nat.zero_le _) (Nat.zero_le _) dX11_isFirst_24 ?_
        refine g_if_eq (tgt := 37) C dX11_isFirst_27 (by decide) (fun z6 => ?_) (fun z6 => ?_)
        · replace h := h.1 z6
          obtain ⟨v7, ev7⟩ : ∃ y : Int32, y = x3 + 1 := ⟨_, rfl⟩
          replace h := h v7 ev7
          refine g_iinc (v := v7) (lv' := [(3, .int v7), (0, .ref m0), (1, .int x1), (2, .int x2)]) C dX11_isFirst_37 (j := 3) rfl (by rw [ev7]; rfl) (by decide) rfl ?_
          refine g_goto (tgt := 2) C dX11_isFirst_40 (by decide) ?_
          refine g_locals [1, 2, 3, 0] rfl ?_
          exact ih x1 x2 v7 r q h
        · replace h := h.2 z6
          refine g_aload_n C dX11_isFirst_30 rfl 0 rfl ?_
          refine g_iload_n C dX11_isFirst_31 rfl 3 rfl ?_
          refine gr_put_17 C iwx_X11 (hw kw_1826) dX11_isFirst_32 ?_
          refine gr_nr (fun r8 er8 => ?_)
          replace h := h r8 er8
          refine g_iconst (v := 1) C dX11_isFirst_35 (by decide) ?_
          exact gr_zret C hr vz1 dX11_isFirst_36 h
def wp_X11_isFirst (P : Int32 → RST → Prop) (p0 : Int32) (p1 : Int32) (r : Nat → Int32) (q : Nat → Nat → Int32) : Prop := ∃ k9 : Nat, wp_X11_isFirst_2  P k9 p0 p1 0 r q
set_option maxRecDepth 100000 in
set_option maxHeartbeats 4000000 in
theorem t_X11_isFirst {p : Program} {l : Launch} {e : Env} {s : State} {m : MethodId} {args : Array Value} {below : List Frame} {meth : Method} {c : Code} {D : va_G} {A : Nat → Prop} {T : Nat → ClassId} {m0 : Nat} {a : Nat → Nat} (C : GC p s m args meth c cX11_isFirst "FreightRaterModel" (ws_X11_isFirst) 4 D A (zty T)) (hr : meth.sig.returnType = (some .boolean)) (P : Int32 → RST → Prop) : ∀ (p0 : Int32) (p1 : Int32) (r : Nat → Int32) (q : Nat → Nat → Int32), wp_X11_isFirst P p0 p1 r q → GW p l e rm_X11_isFirst s m args below meth c D A 4 0 0 (MQ below (va_Qi P (RE D T m0 a A) A) args s 0 0 A) (RW m0 a T r q) 0 0 0 [(0, .ref m0), (1, .int p0), (2, .int p1)] [] := by
  have hw : ∀ {w : Cond}, w ∈ W0 → w.before args s = true := fun h => C.2.2.2.2.1 _ (List.mem_cons_of_mem _ h)
  intro p0 p1 r q h
  unfold wp_X11_isFirst at h
  refine g_iconst (v := 0) C dX11_isFirst_0 (by decide) ?_
  refine g_istore_n (lv' := [(3, .int 0), (0, .ref m0), (1, .int p0), (2, .int p1)]) C dX11_isFirst_1 rfl (by decide) rfl ?_
  refine g_locals [1, 2, 3, 0] rfl ?_
  obtain ⟨k9, h⟩ := h
  refine t_X11_isFirst_2 C hr  P  k9 p0 p1 0 r q h
theorem c_X11_isFirst (l : Launch) (D : va_G) (T : Nat → ClassId) (m0 : Nat) (a : Nat → Nat) (p0 : Int32) (p1 : Int32) (r : Nat → Int32) (q : Nat → Nat → Int32) (P : Int32 → RST → Prop) (h : wp_X11_isFirst P p0 p1 r q) : RMi l yX11_isFirst (ws_X11_isFirst) rm_X11_isFirst D T m0 a [.ref m0, .int p0, .int p1] r q P := gr_meti (by decide) rfl rfl (Nat.le_of_ble_eq_true rfl) (fun p e s m args below meth c A C hr => t_X11_isFirst C hr P p0 p1 r q h)
theorem rl_isFirst {P : Int32 → RST → Prop} {r : Nat → Int32} {q : Nat → Nat → Int32} {rs g n1 : Nat} (hw : WF (q 0)) (hrs : rs ≤ 8) (hg : g < 1024) (hg0 : ¬ g = 0) (hv : (rs = 4 ∨ rs = 5) → vix (r 18)) (hn1 : n1 ≤ 10) (hm : q 0 1 = nI n1) : ∀ (k s fuel : Nat), s + k = n1 → k < fuel → P (match firFold (q 0) (iv (r 18)) rs g k s with | none => 0 | some _ => 1) (match firFold (q 0) (iv (r 18)) rs g k s with | none => r | some s => va_up r 17 (nI s), q) → wp_X11_isFirst_2 P fuel (nI rs) (nI g) (nI s) r q := by
  intro k
  induction k with
  | zero =>
    intro s fuel hs hf hp
    obtain ⟨f, rfl⟩ : ∃ f, fuel = f + 1 := ⟨fuel - 1, by omega⟩; rw [wp_X11_isFirst_2]; unfold wb_X11_isFirst_2; dsimp only
    simp (disch := omega) only [hm, li_2, li_3, li_4, li_5, li_6, li_7, li_8, li_9, li_10, li_12, li_14, li_20, li_26, li_30, li_31, li_36, li_38, li_47, li_48, li_50, li_57, li_58, li_80, li_98, li_99, li_100, li_102, li_104, li_105, li_108, li_109, li_110, li_114, li_115, li_119, li_122, li_137, li_146, li_147, li_148, li_149, li_150, li_200, li_255, li_256, li_274, li_510, li_512, li_640, li_999, li_1000, li_1024, li_3334, li_5000, li_9999, li_10000, li_23338, li_26672, li_30000, li_99999, li_150000, li_300000, pk_mul, nI_add, pk_sub, nI_clamp, nI_1, nI_p1, nI_a0, nI_0a, nI_m0, nI_m1, cl_0, cl_1, z01, z11, nI_leI, nI_ltI, nI_eq, nz_lt0, nz_le, nz_eq0, nz_pos, nz_le0, nz_eq1, nz_lt1, nz_ge1, nz_le1, nz_gt1, nz_vp, nz_vp0, nz_vp1, six_nI, vix_nI, bix_nI, pix_nI, fix_nI, gix_nI, rix_nI, zix_nI, pix_0, pix_1, bix_0, fix_0, fix_1, rix_1, true_and, and_true]
    exact ⟨by omega, fun _ => hp, fun h => absurd (by omega) h⟩
  | succ k ih =>
    intro s fuel hs hf hp
    obtain ⟨f, rfl⟩ : ∃ f, fuel = f + 1 := ⟨fuel - 1, by omega⟩; rw [wp_X11_isFirst_2]; unfold wb_X11_isFirst_2; dsimp only
    have hh := has_0 (n := g) (s := s) hg (by omega)
    rw [firFold] at hp
    simp (disch := omega) only [hm, hh, li_2, li_3, li_4, li_5, li_6, li_7, li_8, li_9, li_10, li_12, li_14, li_20, li_26, li_30, li_31, li_36, li_38, li_47, li_48, li_50, li_57, li_58, li_80, li_98, li_99, li_100, li_102, li_104, li_105, li_108, li_109, li_110, li_114, li_115, li_119, li_122, li_137, li_146, li_147, li_148, li_149, li_150, li_200, li_255, li_256, li_274, li_510, li_512, li_640, li_999, li_1000, li_1024, li_3334, li_5000, li_9999, li_10000, li_23338, li_26672, li_30000, li_99999, li_150000, li_300000, pk_mul, nI_add, pk_sub, nI_clamp, nI_1, nI_p1, nI_a0, nI_0a, nI_m0, nI_m1, cl_0, cl_1, z01, z11, nI_leI, nI_ltI, nI_eq, nz_lt0, nz_le, nz_eq0, nz_pos, nz_le0, nz_eq1, nz_lt1, nz_ge1, nz_le1, nz_gt1, nz_vp, nz_vp0, nz_vp1, six_nI, vix_nI, bix_nI, pix_nI, fix_nI, gix_nI, rix_nI, zix_nI, pix_0, pix_1, bix_0, fix_0, fix_1, rix_1, true_and, and_true]
    refine ⟨by omega, fun h => absurd h (by omega), fun _ => ⟨fun c v4 e4 => ?_, fun c => ⟨⟨hw, by omega, ⟨by omega, hg0⟩, by omega, hv⟩, fun c2 v4 e4 => ?_, fun c2 r8 e8 => ?_⟩⟩⟩
    · subst e4
      rw [if_neg (fun z => c z.1)] at hp
      exact ih (s + 1) f (by omega) (by omega) hp
    · subst e4
      rw [if_neg (fun z => z.2 c2)] at hp
      exact ih (s + 1) f (by omega) (by omega) hp
    · subst e8
      rw [if_pos ⟨by simpa using c, c2⟩] at hp
      exact hp
theorem k_X11_isFirst (l : Launch) (D : va_G) (T : Nat → ClassId) (m0 : Nat) (a : Nat → Nat) (p0 : Int32) (p1 : Int32) (r : Nat → Int32) (q : Nat → Nat → Int32) (h : WF (q 0) ∧ rix p0 ∧ (gix p1 ∧ ¬ p1 = (0 : Int32)) ∧ ((iv p0 = 4 ∨ iv p0 = 5) → vix (r 18))) : RMi l yX11_isFirst (ws_X11_isFirst) rm_X11_isFirst D T m0 a [.ref m0, .int p0, .int p1] r q (fun v u => (v = (match firF (q 0) (iv (r 18)) (iv p0) (iv p1) with | none => 0 | some _ => 1) ∧ u.1 = (match firF (q 0) (iv (r 18)) (iv p0) (iv p1) with | none => r | some s => va_up r 17 (nI s)) ∧ u.2 = q)) := c_X11_isFirst l D T m0 a p0 p1 r q _ <|
  (by
    obtain ⟨hw, ⟨rs, hrs, rfl⟩, ⟨⟨g, hg, rfl⟩, hg0⟩, hv⟩ := h
    obtain ⟨n1, hn1, hm⟩ := hw.2.1
    have h0 : ¬ g = 0 := fun e => hg0 (by rw [e]; rfl)
    unfold wp_X11_isFirst
    simp (disch := omega) only [li_2, li_3, li_4, li_5, li_6, li_7, li_8, li_9, li_10, li_12, li_14, li_20, li_26, li_30, li_31, li_36, li_38, li_47, li_48, li_50, li_57, li_58, li_80, li_98, li_99, li_100, li_102, li_104, li_105, li_108, li_109, li_110, li_114, li_115, li_119, li_122, li_137, li_146, li_147, li_148, li_149, li_150, li_200, li_255, li_256, li_274, li_510, li_512, li_640, li_999, li_1000, li_1024, li_3334, li_5000, li_9999, li_10000, li_23338, li_26672, li_30000, li_99999, li_150000, li_300000, pk_mul, nI_add, pk_sub, nI_clamp, nI_1, nI_p1, nI_a0, nI_0a, nI_m0, nI_m1, cl_0, cl_1, z01, z11, nI_leI, nI_ltI, nI_eq, nz_lt0, nz_le, nz_eq0, nz_pos, nz_le0, nz_eq1, nz_lt1, nz_ge1, nz_le1, nz_gt1, nz_vp, nz_vp0, nz_vp1, six_nI, vix_nI, bix_nI, pix_nI, fix_nI, gix_nI, rix_nI, zix_nI, pix_0, pix_1, bix_0, fix_0, fix_1, rix_1, true_and, and_true] at hv ⊢
    refine ⟨n1 + 1, rl_isFirst hw hrs hg h0 hv hn1 hm n1 0 _ (by omega) (by omega) ?_⟩
    unfold firF
    simp (disch := omega) only [nI_clamp, hm]
    repeat' (first | with_reducible rfl | with_reducible trivial | omega | with_reducible apply And.intro | rfl))
abbrev ws_X11_posted : List Cond := Cond.code yX11_posted cX11_posted 3 (some .int) :: W0
abbrev rm_X11_posted : Room := ({ frames := 2, cells := 0, slots := 0, locals := 43 } : Room)
def wb_X11_posted_4 (rec : Int32 → Int32 → (Nat → Int32) → (Nat → Nat → Int32) → Prop) (P : Int32 → RST → Prop) (x1 : Int32) (x2 : Int32) (r : Nat → Int32) (q : Nat → Nat → Int32) : Prop := vp_in 1 3334 ∧ (((q 0 (Int32.toNatClampNeg 1)) ≤ x2 → (P x1 (r, q))) ∧ (¬ (q 0 (Int32.toNatClampNeg 1)) ≤ x2 → ((six x2) ∧ (((psF (q 0) (iv x2)) = 0 → (∀ v5 : Int32, v5 = (x1 ||| 0) → (∀ v6 : Int32, v6 = x2 + 1 → (rec v5 v6 r q)))) ∧ (¬ (psF (q 0) (iv x2)) = 0 → (∀ v7 : Int32, v7 = (x1 ||| (1 <<< (x2 &&& 31))) → (∀ v8 : Int32, v8 = x2 + 1 → (rec v7 v8 r q))))))))
def wp_X11_posted_4 (P : Int32 → RST → Prop) : Nat → Int32 → Int32 → (Nat → Int32) → (Nat → Nat → Int32) → Prop
  | 0 => fun _ _ _ _ => False
  | n + 1 => fun x1 x2 r q => wb_X11_posted_4 (wp_X11_posted_4  P n)  P x1 x2 r q
set_option maxRecDepth 100000 in
set_option maxHeartbeats 4000000 in
theorem t_X11_posted_4 {p : Program} {l : Launch} {e : Env} {s : State} {m : MethodId} {args : Array Value} {below : List Frame} {meth : Method} {c : Code} {D : va_G} {A : Nat → Prop} {T : Nat → ClassId} {m0 : Nat} {a : Nat → Nat} (C : GC p s m args meth c cX11_posted "FreightRaterModel" (ws_X11_posted) 3 D A (zty T)) (hr : meth.sig.returnType = (some .int)) (P : Int32 → RST → Prop) : ∀ (n : Nat) (x1 : Int32) (x2 : Int32) (r : Nat → Int32) (q : Nat → Nat → Int32), wp_X11_posted_4  P n x1 x2 r q → GW p l e rm_X11_posted s m args below meth c D A 3 0 0 (MQ below (va_Qi P (RE D T m0 a A) A) args s 0 0 A) (RW m0 a T r q) 0 0 4 [(0, .ref m0), (1, .int x1), (2, .int x2)] [] := by
  have hw : ∀ {w : Cond}, w ∈ W0 → w.before args s = true := fun h => C.2.2.2.2.1 _ (List.mem_cons_of_mem _ h)
  intro n
  induction n with
  | zero => intro x1 x2 r q h; exact h.elim
  | succ n ih =>
    intro x1 x2 r q h
    replace h : wb_X11_posted_4 (wp_X11_posted_4  P n)  P x1 x2 r q := h
    unfold wb_X11_posted_4 at h
    refine g_iload_n C dX11_posted_4 rfl 2 rfl ?_
    refine g_aload_n C dX11_posted_5 rfl 0 rfl ?_
    refine gr_get C iwx_X11 0 (hw kw_1809) (by decide) rfl rfl dX11_posted_6 ?_
    refine g_iconst (v := 1) C dX11_posted_9 (by decide) ?_
    obtain ⟨g1, h⟩ := h
    refine gr_ald_0 C g1 dX11_posted_10 ?_
    refine g_icmp_ge (tgt := 38) C dX11_posted_11 (by decide) (fun z2 => ?_) (fun z2 => ?_)
    · replace h := h.1 z2
      refine g_iload_n C dX11_posted_38 rfl 1 rfl ?_
      exact gr_iret C hr dX11_posted_39 h
    · replace h := h.2 z2
      refine g_iload_n C dX11_posted_14 rfl 1 rfl ?_
      refine g_aload_n C dX11_posted_15 rfl 0 rfl ?_
      refine g_iload_n C dX11_posted_16 rfl 2 rfl ?_
      obtain ⟨g3, h⟩ := h
      refine gr_callVf C [.int x2] rfl (k_X11_isPosted l D T m0 a x2 r q g3) (w0_V 1 C.2.2.2.2.1 kw_2123 kw_2125 ks_78 kw_9 kw_2126 rfl rfl (by decide +kernel) ⟨by decide, by decide⟩) rfl (Nat.le_of_ble_eq_true rfl) (Nat.zero_le _) (Nat.zero_le _) dX11_posted_17 ?_
      refine g_if_eq (tgt := 29) C dX11_posted_20 (by decide) (fun z4 => ?_) (fun z4 => ?_)
      · replace h := h.1 z4
        refine g_iconst (v := 0) C dX11_posted_29 (by decide) ?_
        refine g_ior C dX11_posted_30 ?_
        refine g_topi (fun v5 ev5 => ?_)
        replace h := h v5 ev5
        refine g_istore_n (lv' := [(1, .int v5), (0, .ref m0), (2, .int x2)]) C dX11_posted_31 rfl (by decide) rfl ?_
        obtain ⟨v6, ev6⟩ : ∃ y : Int32, y = x2 + 1 := ⟨_, rfl⟩
        replace h := h v6 ev6
        refine g_iinc (v := v6) (lv' := [(2, .int v6), (1, .int v5), (0, .ref m0)]) C dX11_posted_32 (j := 2) rfl (by rw [ev6]; rfl) (by decide) rfl ?_
        refine g_goto (tgt := 4) C dX11_posted_35 (by decide) ?_
        refine g_locals [2, 1, 0] rfl ?_
        exact ih v5 v6 r q h
      · replace h := h.2 z4
        refine g_iconst (v := 1) C dX11_posted_23 (by decide) ?_
        refine g_iload_n C dX11_posted_24 rfl 2 rfl ?_
        refine g_ishl C dX11_posted_25 ?_
        refine g_goto (tgt := 30) C dX11_posted_26 (by decide) ?_
        refine g_ior C dX11_posted_30 ?_
        refine g_topi (fun v7 ev7 => ?_)
        replace h := h v7 ev7
        refine g_istore_n (lv' := [(1, .int v7), (0, .ref m0), (2, .int x2)]) C dX11_posted_31 rfl (by decide) rfl ?_
        obtain ⟨v8, ev8⟩ : ∃ y : Int32, y = x2 + 1 := ⟨_, rfl⟩
        replace h := h v8 ev8
        refine g_iinc (v := v8) (lv' := [(2, .int v8), (1, .int v7), (0, .ref m0)]) C dX11_posted_32 (j := 2) rfl (by rw [ev8]; rfl) (by decide) rfl ?_
        refine g_goto (tgt := 4) C dX11_posted_35 (by decide) ?_
        refine g_locals [2, 1, 0] rfl ?_
        exact ih v7 v8 r q h
def wp_X11_posted (P : Int32 → RST → Prop)  (r : Nat → Int32) (q : Nat → Nat → Int32) : Prop := ∃ k9 : Nat, wp_X11_posted_4  P k9 0 0 r q
set_option maxRecDepth 100000 in
set_option maxHeartbeats 4000000 in
theorem t_X11_posted {p : Program} {l : Launch} {e : Env} {s : State} {m : MethodId} {args : Array Value} {below : List Frame} {meth : Method} {c : Code} {D : va_G} {A : Nat → Prop} {T : Nat → ClassId} {m0 : Nat} {a : Nat → Nat} (C : GC p s m args meth c cX11_posted "FreightRaterModel" (ws_X11_posted) 3 D A (zty T)) (hr : meth.sig.returnType = (some .int)) (P : Int32 → RST → Prop) : ∀  (r : Nat → Int32) (q : Nat → Nat → Int32), wp_X11_posted P  r q → GW p l e rm_X11_posted s m args below meth c D A 3 0 0 (MQ below (va_Qi P (RE D T m0 a A) A) args s 0 0 A) (RW m0 a T r q) 0 0 0 [(0, .ref m0)] [] := by
  have hw : ∀ {w : Cond}, w ∈ W0 → w.before args s = true := fun h => C.2.2.2.2.1 _ (List.mem_cons_of_mem _ h)
  intro  r q h
  unfold wp_X11_posted at h
  refine g_iconst (v := 0) C dX11_posted_0 (by decide) ?_
  refine g_istore_n (lv' := [(1, .int 0), (0, .ref m0)]) C dX11_posted_1 rfl (by decide) rfl ?_
  refine g_iconst (v := 0) C dX11_posted_2 (by decide) ?_
  refine g_istore_n (lv' := [(2, .int 0), (1, .int 0), (0, .ref m0)]) C dX11_posted_3 rfl (by decide) rfl ?_
  refine g_locals [2, 1, 0] rfl ?_
  obtain ⟨k9, h⟩ := h
  refine t_X11_posted_4 C hr  P  k9 0 0 r q h
theorem c_X11_posted (l : Launch) (D : va_G) (T : Nat → ClassId) (m0 : Nat) (a : Nat → Nat)  (r : Nat → Int32) (q : Nat → Nat → Int32) (P : Int32 → RST → Prop) (h : wp_X11_posted P  r q) : RMi l yX11_posted (ws_X11_posted) rm_X11_posted D T m0 a [.ref m0] r q P := gr_meti (by decide) rfl rfl (Nat.le_of_ble_eq_true rfl) (fun p e s m args below meth c A C hr => t_X11_posted C hr P  r q h)
theorem rl_posted {P : Int32 → RST → Prop} {r : Nat → Int32} {q : Nat → Nat → Int32} {n1 : Nat} (hn1 : n1 ≤ 10) (hm : q 0 1 = nI n1) : ∀ (k s fuel : Nat) (a : Int32), s + k = n1 → k < fuel → P (posFold (q 0) k s a) (r, q) → wp_X11_posted_4 P fuel a (nI s) r q := by
  intro k
  induction k with
  | zero =>
    intro s fuel a hs hf hp
    obtain ⟨f, rfl⟩ : ∃ f, fuel = f + 1 := ⟨fuel - 1, by omega⟩; rw [wp_X11_posted_4]; unfold wb_X11_posted_4; dsimp only
    simp (disch := omega) only [hm, li_2, li_3, li_4, li_5, li_6, li_7, li_8, li_9, li_10, li_12, li_14, li_20, li_26, li_30, li_31, li_36, li_38, li_47, li_48, li_50, li_57, li_58, li_80, li_98, li_99, li_100, li_102, li_104, li_105, li_108, li_109, li_110, li_114, li_115, li_119, li_122, li_137, li_146, li_147, li_148, li_149, li_150, li_200, li_255, li_256, li_274, li_510, li_512, li_640, li_999, li_1000, li_1024, li_3334, li_5000, li_9999, li_10000, li_23338, li_26672, li_30000, li_99999, li_150000, li_300000, pk_mul, nI_add, pk_sub, nI_clamp, nI_1, nI_p1, nI_a0, nI_0a, nI_m0, nI_m1, cl_0, cl_1, z01, z11, nI_leI, nI_ltI, nI_eq, nz_lt0, nz_le, nz_eq0, nz_pos, nz_le0, nz_eq1, nz_lt1, nz_ge1, nz_le1, nz_gt1, nz_vp, nz_vp0, nz_vp1, six_nI, vix_nI, bix_nI, pix_nI, fix_nI, gix_nI, rix_nI, zix_nI, pix_0, pix_1, bix_0, fix_0, fix_1, rix_1, true_and, and_true]
    exact ⟨by omega, fun _ => hp, fun h => absurd (by omega) h⟩
  | succ k ih =>
    intro s fuel a hs hf hp
    obtain ⟨f, rfl⟩ : ∃ f, fuel = f + 1 := ⟨fuel - 1, by omega⟩; rw [wp_X11_posted_4]; unfold wb_X11_posted_4; dsimp only
    rw [posFold] at hp
    simp (disch := omega) only [hm, li_2, li_3, li_4, li_5, li_6, li_7, li_8, li_9, li_10, li_12, li_14, li_20, li_26, li_30, li_31, li_36, li_38, li_47, li_48, li_50, li_57, li_58, li_80, li_98, li_99, li_100, li_102, li_104, li_105, li_108, li_109, li_110, li_114, li_115, li_119, li_122, li_137, li_146, li_147, li_148, li_149, li_150, li_200, li_255, li_256, li_274, li_510, li_512, li_640, li_999, li_1000, li_1024, li_3334, li_5000, li_9999, li_10000, li_23338, li_26672, li_30000, li_99999, li_150000, li_300000, pk_mul, nI_add, pk_sub, nI_clamp, nI_1, nI_p1, nI_a0, nI_0a, nI_m0, nI_m1, cl_0, cl_1, z01, z11, nI_leI, nI_ltI, nI_eq, nz_lt0, nz_le, nz_eq0, nz_pos, nz_le0, nz_eq1, nz_lt1, nz_ge1, nz_le1, nz_gt1, nz_vp, nz_vp0, nz_vp1, six_nI, vix_nI, bix_nI, pix_nI, fix_nI, gix_nI, rix_nI, zix_nI, pix_0, pix_1, bix_0, fix_0, fix_1, rix_1, true_and, and_true]
    refine ⟨by omega, fun h => absurd h (by omega), fun _ => ⟨by omega, fun c v4 e4 v5 e5 => ?_, fun c v4 e4 v5 e5 => ?_⟩⟩
    · subst e4 e5
      have c' : ¬ 0 ≤ q 0 (14 + 26 * s + 5) := fun z => by unfold psF at c; rw [if_pos z] at c; exact absurd c (by decide)
      rw [if_neg c'] at hp
      exact ih (s + 1) f _ (by omega) (by omega) hp
    · subst e4 e5
      have c' : 0 ≤ q 0 (14 + 26 * s + 5) := Decidable.by_contra (fun z => by unfold psF at c; rw [if_neg z] at c; exact c rfl)
      rw [if_pos c'] at hp
      exact ih (s + 1) f _ (by omega) (by omega) hp
theorem k_X11_posted (l : Launch) (D : va_G) (T : Nat → ClassId) (m0 : Nat) (a : Nat → Nat)  (r : Nat → Int32) (q : Nat → Nat → Int32) (h : WF (q 0)) : RMi l yX11_posted (ws_X11_posted) rm_X11_posted D T m0 a [.ref m0] r q (fun v u => v = (posF (q 0)) ∧ u = (r, q)) := c_X11_posted l D T m0 a  r q _ <|
  (by
    obtain ⟨n1, hn1, hm⟩ := h.2.1
    unfold wp_X11_posted
    refine ⟨n1 + 1, rl_posted (P := fun v u => v = posF (q 0) ∧ u = (r, q)) hn1 hm n1 0 _ 0 (by omega) (by omega) ⟨?_, rfl⟩⟩
    unfold posF
    simp (disch := omega) only [nI_clamp, hm])
abbrev ws_X11_accountOf : List Cond := Cond.code yX11_accountOf cX11_accountOf 4 (some .int) :: W0
abbrev rm_X11_accountOf : Room := ({ frames := 2, cells := 0, slots := 0, locals := 43 } : Room)
def wb_X11_accountOf_4 (rec : Int32 → Int32 → Int32 → (Nat → Int32) → (Nat → Nat → Int32) → Prop) (P : Int32 → RST → Prop) (x1 : Int32) (x2 : Int32) (x3 : Int32) (r : Nat → Int32) (q : Nat → Nat → Int32) : Prop := vp_in 1 3334 ∧ (((q 0 (Int32.toNatClampNeg 1)) ≤ x3 → (P x2 (r, q))) ∧ (¬ (q 0 (Int32.toNatClampNeg 1)) ≤ x3 → ((six x3) ∧ (((psF (q 0) (iv x3)) = 0 → (∀ v5 : Int32, v5 = (x2 + 0) → (∀ v6 : Int32, v6 = x3 + 1 → (rec x1 v5 v6 r q)))) ∧ (¬ (psF (q 0) (iv x3)) = 0 → ((x1 = 4 → ((six x3 ∧ pix 5) ∧ (∀ v9 : Int32, v9 = (x2 + (q 0 (14 + 26 * iv x3 + iv 5))) → (∀ v10 : Int32, v10 = x3 + 1 → (rec x1 v9 v10 r q))))) ∧ (¬ x1 = 4 → ((six x3 ∧ pix 3) ∧ ((¬ (q 0 (14 + 26 * iv x3 + iv 3)) = x1 → (∀ v13 : Int32, v13 = (x2 + 0) → (∀ v14 : Int32, v14 = x3 + 1 → (rec x1 v13 v14 r q)))) ∧ ((q 0 (14 + 26 * iv x3 + iv 3)) = x1 → ((six x3 ∧ pix 5) ∧ (∀ v16 : Int32, v16 = (x2 + (q 0 (14 + 26 * iv x3 + iv 5))) → (∀ v17 : Int32, v17 = x3 + 1 → (rec x1 v16 v17 r q))))))))))))))
def wp_X11_accountOf_4 (P : Int32 → RST → Prop) : Nat → Int32 → Int32 → Int32 → (Nat → Int32) → (Nat → Nat → Int32) → Prop
  | 0 => fun _ _ _ _ _ => False
  | n + 1 => fun x1 x2 x3 r q => wb_X11_accountOf_4 (wp_X11_accountOf_4  P n)  P x1 x2 x3 r q
set_option maxRecDepth 100000 in
set_option maxHeartbeats 4000000 in
theorem t_X11_accountOf_4 {p : Program} {l : Launch} {e : Env} {s : State} {m : MethodId} {args : Array Value} {below : List Frame} {meth : Method} {c : Code} {D : va_G} {A : Nat → Prop} {T : Nat → ClassId} {m0 : Nat} {a : Nat → Nat} (C : GC p s m args meth c cX11_accountOf "FreightRaterModel" (ws_X11_accountOf) 4 D A (zty T)) (hr : meth.sig.returnType = (some .int)) (P : Int32 → RST → Prop) : ∀ (n : Nat) (x1 : Int32) (x2 : Int32) (x3 : Int32) (r : Nat → Int32) (q : Nat → Nat → Int32), wp_X11_accountOf_4  P n x1 x2 x3 r q → GW p l e rm_X11_accountOf s m args below meth c D A 4 0 0 (MQ below (va_Qi P (RE D T m0 a A) A) args s 0 0 A) (RW m0 a T r q) 0 0 4 [(0, .ref m0), (1, .int x1), (2, .int x2), (3, .int x3)] [] := by
  have hw : ∀ {w : Cond}, w ∈ W0 → w.before args s = true := fun h => C.2.2.2.2.1 _ (List.mem_cons_of_mem _ h)
  intro n
  induction n with
  | zero => intro x1 x2 x3 r q h; exact h.elim
  | succ n ih =>
    intro x1 x2 x3 r q h
    replace h : wb_X11_accountOf_4 (wp_X11_accountOf_4  P n)  P x1 x2 x3 r q := h
    unfold wb_X11_accountOf_4 at h
    refine g_iload_n C dX11_accountOf_4 rfl 3 rfl ?_
    refine g_aload_n C dX11_accountOf_5 rfl 0 rfl ?_
    refine gr_get C iwx_X11 0 (hw kw_1809) (by decide) rfl rfl dX11_accountOf_6 ?_
    refine g_iconst (v := 1) C dX11_accountOf_9 (by decide) ?_
    obtain ⟨g1, h⟩ := h
    refine gr_ald_0 C g1 dX11_accountOf_10 ?_
    refine g_icmp_ge (tgt := 56) C dX11_accountOf_11 (by decide) (fun z2 => ?_) (fun z2 => ?_)
    · replace h := h.1 z2
      refine g_iload_n C dX11_accountOf_56 rfl 2 rfl ?_
      exact gr_iret C hr dX11_accountOf_57 h
    · replace h := h.2 z2
      refine g_iload_n C dX11_accountOf_14 rfl 2 rfl ?_
      refine g_aload_n C dX11_accountOf_15 rfl 0 rfl ?_
      refine g_iload_n C dX11_accountOf_16 rfl 3 rfl ?_
      obtain ⟨g3, h⟩ := h
      refine gr_callVf C [.int x3] rfl (k_X11_isPosted l D T m0 a x3 r q g3) (w0_V 1 C.2.2.2.2.1 kw_2123 kw_2125 ks_78 kw_9 kw_2126 rfl rfl (by decide +kernel) ⟨by decide, by decide⟩) rfl (Nat.le_of_ble_eq_true rfl) (Nat.zero_le _) (Nat.zero_le _) dX11_accountOf_17 ?_
      refine g_if_eq (tgt := 47) C dX11_accountOf_20 (by decide) (fun z4 => ?_) (fun z4 => ?_)
      · replace h := h.1 z4
        refine g_iconst (v := 0) C dX11_accountOf_47 (by decide) ?_
        refine g_iadd C dX11_accountOf_48 ?_
        refine g_topi (fun v5 ev5 => ?_)
        replace h := h v5 ev5
        refine g_istore_n (lv' := [(2, .int v5), (0, .ref m0), (1, .int x1), (3, .int x3)]) C dX11_accountOf_49 rfl (by decide) rfl ?_
        obtain ⟨v6, ev6⟩ : ∃ y : Int32, y = x3 + 1 := ⟨_, rfl⟩
        replace h := h v6 ev6
        refine g_iinc (v := v6) (lv' := [(3, .int v6), (2, .int v5), (0, .ref m0), (1, .int x1)]) C dX11_accountOf_50 (j := 3) rfl (by rw [ev6]; rfl) (by decide) rfl ?_
        refine g_goto (tgt := 4) C dX11_accountOf_53 (by decide) ?_
        refine g_locals [2, 3, 1, 0] rfl ?_
        exact ih x1 v5 v6 r q h
      · replace h := h.2 z4
        refine g_iload_n C dX11_accountOf_23 rfl 1 rfl ?_
        refine g_iconst (v := 4) C dX11_accountOf_24 (by decide) ?_
        refine g_icmp_eq (tgt := 38) C dX11_accountOf_25 (by decide) (fun z7 => ?_) (fun z7 => ?_)
        · replace h := h.1 z7
          refine g_aload_n C dX11_accountOf_38 rfl 0 rfl ?_
          refine g_iload_n C dX11_accountOf_39 rfl 3 rfl ?_
          refine g_iconst (v := 5) C dX11_accountOf_40 (by decide) ?_
          obtain ⟨g8, h⟩ := h
          refine gr_callVf C [.int x3, .int 5] rfl (k_X11_of l D T m0 a x3 5 r q g8) (w0_V 2 C.2.2.2.2.1 kw_2127 kw_2129 ks_79 kw_9 kw_2130 rfl rfl (by decide +kernel) ⟨by decide, by decide⟩) rfl (Nat.le_of_ble_eq_true rfl) (Nat.zero_le _) (Nat.zero_le _) dX11_accountOf_41 ?_
          refine g_goto (tgt := 48) C dX11_accountOf_44 (by decide) ?_
          refine g_iadd C dX11_accountOf_48 ?_
          refine g_topi (fun v9 ev9 => ?_)
          replace h := h v9 ev9
          refine g_istore_n (lv' := [(2, .int v9), (0, .ref m0), (1, .int x1), (3, .int x3)]) C dX11_accountOf_49 rfl (by decide) rfl ?_
          obtain ⟨v10, ev10⟩ : ∃ y : Int32, y = x3 + 1 := ⟨_, rfl⟩
          replace h := h v10 ev10
          refine g_iinc (v := v10) (lv' := [(3, .int v10), (2, .int v9), (0, .ref m0), (1, .int x1)]) C dX11_accountOf_50 (j := 3) rfl (by rw [ev10]; rfl) (by decide) rfl ?_
          refine g_goto (tgt := 4) C dX11_accountOf_53 (by decide) ?_
          refine g_locals [2, 3, 1, 0] rfl ?_
          exact ih x1 v9 v10 r q h
        · replace h := h.2 z7
          refine g_aload_n C dX11_accountOf_28 rfl 0 rfl ?_
          refine g_iload_n C dX11_accountOf_29 rfl 3 rfl ?_
          refine g_iconst (v := 3) C dX11_accountOf_30 (by decide) ?_
          obtain ⟨g11, h⟩ := h
          refine gr_callVf C [.int x3, .int 3] rfl (k_X11_of l D T m0 a x3 3 r q g11) (w0_V 2 C.2.2.2.2.1 kw_2127 kw_2129 ks_79 kw_9 kw_2130 rfl rfl (by decide +kernel) ⟨by decide, by decide⟩) rfl (Nat.le_of_ble_eq_true rfl) (Nat.zero_le _) (Nat.zero_le _) dX11_accountOf_31 ?_
          refine g_iload_n C dX11_accountOf_34 rfl 1 rfl ?_
          refine g_icmp_ne (tgt := 47) C dX11_accountOf_35 (by decide) (fun z12 => ?_) (fun z12 => ?_)
          · replace h := h.1 z12
            refine g_iconst (v := 0) C dX11_accountOf_47 (by decide) ?_
            refine g_iadd C dX11_accountOf_48 ?_
            refine g_topi (fun v13 ev13 => ?_)
            replace h := h v13 ev13
            refine g_istore_n (lv' := [(2, .int v13), (0, .ref m0), (1, .int x1), (3, .int x3)]) C dX11_accountOf_49 rfl (by decide) rfl ?_
            obtain ⟨v14, ev14⟩ : ∃ y : Int32, y = x3 + 1 := ⟨_, rfl⟩
            replace h := h v14 ev14
            refine g_iinc (v := v14) (lv' := [(3, .int v14), (2, .int v13), (0, .ref m0), (1, .int x1)]) C dX11_accountOf_50 (j := 3) rfl (by rw [ev14]; rfl) (by decide) rfl ?_
            refine g_goto (tgt := 4) C dX11_accountOf_53 (by decide) ?_
            refine g_locals [2, 3, 1, 0] rfl ?_
            exact ih x1 v13 v14 r q h
          · replace h := h.2 z12
            refine g_aload_n C dX11_accountOf_38 rfl 0 rfl ?_
            refine g_iload_n C dX11_accountOf_39 rfl 3 rfl ?_
            refine g_iconst (v := 5) C dX11_accountOf_40 (by decide) ?_
            obtain ⟨g15, h⟩ := h
            refine gr_callVf C [.int x3, .int 5] rfl (k_X11_of l D T m0 a x3 5 r q g15) (w0_V 2 C.2.2.2.2.1 kw_2127 kw_2129 ks_79 kw_9 kw_2130 rfl rfl (by decide +kernel) ⟨by decide, by decide⟩) rfl (Nat.le_of_ble_eq_true rfl) (Nat.zero_le _) (Nat.zero_le _) dX11_accountOf_41 ?_
            refine g_goto (tgt := 48) C dX11_accountOf_44 (by decide) ?_
            refine g_iadd C dX11_accountOf_48 ?_
            refine g_topi (fun v16 ev16 => ?_)
            replace h := h v16 ev16
            refine g_istore_n (lv' := [(2, .int v16), (0, .ref m0), (1, .int x1), (3, .int x3)]) C dX11_accountOf_49 rfl (by decide) rfl ?_
            obtain ⟨v17, ev17⟩ : ∃ y : Int32, y = x3 + 1 := ⟨_, rfl⟩
            replace h := h v17 ev17
            refine g_iinc (v := v17) (lv' := [(3, .int v17), (2, .int v16), (0, .ref m0), (1, .int x1)]) C dX11_accountOf_50 (j := 3) rfl (by rw [ev17]; rfl) (by decide) rfl ?_
            refine g_goto (tgt := 4) C dX11_accountOf_53 (by decide) ?_
            refine g_locals [2, 3, 1, 0] rfl ?_
            exact ih x1 v16 v17 r q h
def wp_X11_accountOf (P : Int32 → RST → Prop) (p0 : Int32) (r : Nat → Int32) (q : Nat → Nat → Int32) : Prop := ∃ k18 : Nat, wp_X11_accountOf_4  P k18 p0 0 0 r q
set_option maxRecDepth 100000 in
set_option maxHeartbeats 4000000 in
theorem t_X11_accountOf {p : Program} {l : Launch} {e : Env} {s : State} {m : MethodId} {args : Array Value} {below : List Frame} {meth : Method} {c : Code} {D : va_G} {A : Nat → Prop} {T : Nat → ClassId} {m0 : Nat} {a : Nat → Nat} (C : GC p s m args meth c cX11_accountOf "FreightRaterModel" (ws_X11_accountOf) 4 D A (zty T)) (hr : meth.sig.returnType = (some .int)) (P : Int32 → RST → Prop) : ∀ (p0 : Int32) (r : Nat → Int32) (q : Nat → Nat → Int32), wp_X11_accountOf P p0 r q → GW p l e rm_X11_accountOf s m args below meth c D A 4 0 0 (MQ below (va_Qi P (RE D T m0 a A) A) args s 0 0 A) (RW m0 a T r q) 0 0 0 [(0, .ref m0), (1, .int p0)] [] := by
  have hw : ∀ {w : Cond}, w ∈ W0 → w.before args s = true := fun h => C.2.2.2.2.1 _ (List.mem_cons_of_mem _ h)
  intro p0 r q h
  unfold wp_X11_accountOf at h
  refine g_iconst (v := 0) C dX11_accountOf_0 (by decide) ?_
  refine g_istore_n (lv' := [(2, .int 0), (0, .ref m0), (1, .int p0)]) C dX11_accountOf_1 rfl (by decide) rfl ?_
  refine g_iconst (v := 0) C dX11_accountOf_2 (by decide) ?_
  refine g_istore_n (lv' := [(3, .int 0), (2, .int 0), (0, .ref m0), (1, .int p0)]) C dX11_accountOf_3 rfl (by decide) rfl ?_
  refine g_locals [2, 3, 1, 0] rfl ?_
  obtain ⟨k18, h⟩ := h
  refine t_X11_accountOf_4 C hr  P  k18 p0 0 0 r q h
theorem c_X11_accountOf (l : Launch) (D : va_G) (T : Nat → ClassId) (m0 : Nat) (a : Nat → Nat) (p0 : Int32) (r : Nat → Int32) (q : Nat → Nat → Int32) (P : Int32 → RST → Prop) (h : wp_X11_accountOf P p0 r q) : RMi l yX11_accountOf (ws_X11_accountOf) rm_X11_accountOf D T m0 a [.ref m0, .int p0] r q P := gr_meti (by decide) rfl rfl (Nat.le_of_ble_eq_true rfl) (fun p e s m args below meth c A C hr => t_X11_accountOf C hr P p0 r q h)
theorem rl_accountOf {P : Int32 → RST → Prop} {r : Nat → Int32} {q : Nat → Nat → Int32} {n1 : Nat} {c : Int32} (hn1 : n1 ≤ 10) (hm : q 0 1 = nI n1) : ∀ (k s fuel : Nat) (a : Int32), s + k = n1 → k < fuel → P (accFold (q 0) c k s a) (r, q) → wp_X11_accountOf_4 P fuel c a (nI s) r q := by
  intro k
  induction k with
  | zero =>
    intro s fuel a hs hf hp
    obtain ⟨f, rfl⟩ : ∃ f, fuel = f + 1 := ⟨fuel - 1, by omega⟩; rw [wp_X11_accountOf_4]; unfold wb_X11_accountOf_4; dsimp only
    simp (disch := omega) only [hm, li_2, li_3, li_4, li_5, li_6, li_7, li_8, li_9, li_10, li_12, li_14, li_20, li_26, li_30, li_31, li_36, li_38, li_47, li_48, li_50, li_57, li_58, li_80, li_98, li_99, li_100, li_102, li_104, li_105, li_108, li_109, li_110, li_114, li_115, li_119, li_122, li_137, li_146, li_147, li_148, li_149, li_150, li_200, li_255, li_256, li_274, li_510, li_512, li_640, li_999, li_1000, li_1024, li_3334, li_5000, li_9999, li_10000, li_23338, li_26672, li_30000, li_99999, li_150000, li_300000, pk_mul, nI_add, pk_sub, nI_clamp, nI_1, nI_p1, nI_a0, nI_0a, nI_m0, nI_m1, cl_0, cl_1, z01, z11, nI_leI, nI_ltI, nI_eq, nz_lt0, nz_le, nz_eq0, nz_pos, nz_le0, nz_eq1, nz_lt1, nz_ge1, nz_le1, nz_gt1, nz_vp, nz_vp0, nz_vp1, six_nI, vix_nI, bix_nI, pix_nI, fix_nI, gix_nI, rix_nI, zix_nI, pix_0, pix_1, bix_0, fix_0, fix_1, rix_1, true_and, and_true]
    exact ⟨by omega, fun _ => hp, fun h => absurd (by omega) h⟩
  | succ k ih =>
    intro s fuel a hs hf hp
    obtain ⟨f, rfl⟩ : ∃ f, fuel = f + 1 := ⟨fuel - 1, by omega⟩; rw [wp_X11_accountOf_4]; unfold wb_X11_accountOf_4; dsimp only
    rw [accFold] at hp
    simp (disch := omega) only [hm, li_2, li_3, li_4, li_5, li_6, li_7, li_8, li_9, li_10, li_12, li_14, li_20, li_26, li_30, li_31, li_36, li_38, li_47, li_48, li_50, li_57, li_58, li_80, li_98, li_99, li_100, li_102, li_104, li_105, li_108, li_109, li_110, li_114, li_115, li_119, li_122, li_137, li_146, li_147, li_148, li_149, li_150, li_200, li_255, li_256, li_274, li_510, li_512, li_640, li_999, li_1000, li_1024, li_3334, li_5000, li_9999, li_10000, li_23338, li_26672, li_30000, li_99999, li_150000, li_300000, pk_mul, nI_add, pk_sub, nI_clamp, nI_1, nI_p1, nI_a0, nI_0a, nI_m0, nI_m1, cl_0, cl_1, z01, z11, nI_leI, nI_ltI, nI_eq, nz_lt0, nz_le, nz_eq0, nz_pos, nz_le0, nz_eq1, nz_lt1, nz_ge1, nz_le1, nz_gt1, nz_vp, nz_vp0, nz_vp1, six_nI, vix_nI, bix_nI, pix_nI, fix_nI, gix_nI, rix_nI, zix_nI, pix_0, pix_1, bix_0, fix_0, fix_1, rix_1, true_and, and_true]
    refine ⟨by omega, fun h => absurd h (by omega), fun _ => ⟨by omega, fun d v4 e4 v5 e5 => ?_, fun d => ⟨fun d2 => ⟨⟨by omega, by omega⟩, fun v4 e4 v5 e5 => ?_⟩, fun d2 => ⟨⟨by omega, by omega⟩, fun d3 v4 e4 v5 e5 => ?_, fun d3 => ⟨⟨by omega, by omega⟩, fun v4 e4 v5 e5 => ?_⟩⟩⟩⟩⟩
    all_goals subst e4 e5
    · have c' : ¬ 0 ≤ q 0 (14 + 26 * s + 5) := fun z => by unfold psF at d; rw [if_pos z] at d; exact absurd d (by decide)
      rw [if_neg (fun z => c' z.1)] at hp
      exact ih (s + 1) f _ (by omega) (by omega) hp
    all_goals have c' : 0 ≤ q 0 (14 + 26 * s + 5) := Decidable.by_contra (fun z => by unfold psF at d; rw [if_neg z] at d; exact d rfl)
    · subst d2
      rw [if_pos ⟨c', Or.inl rfl⟩] at hp
      exact ih (s + 1) f _ (by omega) (by omega) hp
    · rw [if_neg (fun z => z.2.elim (fun y => d2 y) (fun y => d3 y))] at hp
      exact ih (s + 1) f _ (by omega) (by omega) hp
    · rw [if_pos ⟨c', Or.inr d3⟩] at hp
      exact ih (s + 1) f _ (by omega) (by omega) hp
theorem k_X11_accountOf (l : Launch) (D : va_G) (T : Nat → ClassId) (m0 : Nat) (a : Nat → Nat) (p0 : Int32) (r : Nat → Int32) (q : Nat → Nat → Int32) (h : WF (q 0)) : RMi l yX11_accountOf (ws_X11_accountOf) rm_X11_accountOf D T m0 a [.ref m0, .int p0] r q (fun v u => v = (accF (q 0) p0) ∧ u = (r, q)) := c_X11_accountOf l D T m0 a p0 r q _ <|
  (by
    obtain ⟨n1, hn1, hm⟩ := h.2.1
    unfold wp_X11_accountOf
    refine ⟨n1 + 1, rl_accountOf (P := fun v u => v = accF (q 0) p0 ∧ u = (r, q)) hn1 hm n1 0 _ 0 (by omega) (by omega) ⟨?_, rfl⟩⟩
    unfold accF
    simp (disch := omega) only [nI_clamp, hm])
abbrev ws_X11_refusal : List Cond := Cond.code yX11_refusal cX11_refusal 2 (some .int) :: W0
abbrev rm_X11_refusal : Room := ({ frames := 0, cells := 0, slots := 0, locals := 0 } : Room)
def wp_X11_refusal (P : Int32 → RST → Prop) (p0 : Int32) (r : Nat → Int32) (q : Nat → Nat → Int32) : Prop := (¬ (r 29) = 0 → (∀ r2 : Nat → Int32, r2 = va_up r 6 0 → (((r2 6) ≤ 0 → ((p0 = 0 → (P (r2 29) (r2, q))) ∧ (¬ p0 = 0 → (P (r2 30) (r2, q))))) ∧ (¬ (r2 6) ≤ 0 → (P 0 (r2, q)))))) ∧ ((r 29) = 0 → (∀ r5 : Nat → Int32, r5 = va_up r 6 1 → (((r5 6) ≤ 0 → ((p0 = 0 → (P (r5 29) (r5, q))) ∧ (¬ p0 = 0 → (P (r5 30) (r5, q))))) ∧ (¬ (r5 6) ≤ 0 → (P 0 (r5, q))))))
set_option maxRecDepth 100000 in
set_option maxHeartbeats 4000000 in
theorem t_X11_refusal {p : Program} {l : Launch} {e : Env} {s : State} {m : MethodId} {args : Array Value} {below : List Frame} {meth : Method} {c : Code} {D : va_G} {A : Nat → Prop} {T : Nat → ClassId} {m0 : Nat} {a : Nat → Nat} (C : GC p s m args meth c cX11_refusal "FreightRaterModel" (ws_X11_refusal) 2 D A (zty T)) (hr : meth.sig.returnType = (some .int)) (P : Int32 → RST → Prop) : ∀ (p0 : Int32) (r : Nat → Int32) (q : Nat → Nat → Int32), wp_X11_refusal P p0 r q → GW p l e rm_X11_refusal s m args below meth c D A 2 0 0 (MQ below (va_Qi P (RE D T m0 a A) A) args s 0 0 A) (RW m0 a T r q) 0 0 0 [(0, .ref m0), (1, .int p0)] [] := by
  have hw : ∀ {w : Cond}, w ∈ W0 → w.before args s = true := fun h => C.2.2.2.2.1 _ (List.mem_cons_of_mem _ h)
  intro p0 r q h
  unfold wp_X11_refusal at h
  refine g_aload_n C dX11_refusal_0 rfl 0 rfl ?_
  refine g_aload_n C dX11_refusal_1 rfl 0 rfl ?_
  refine gr_get C iwx_X11 29 (hw kw_1838) (by decide) rfl rfl dX11_refusal_2 ?_
  refine g_if_ne (tgt := 12) C dX11_refusal_5 (by decide) (fun z1 => ?_) (fun z1 => ?_)
  · replace h := h.1 z1
    refine g_iconst (v := 0) C dX11_refusal_12 (by decide) ?_
    refine gr_put_6 C iwx_X11 (hw kw_1815) dX11_refusal_13 ?_
    refine gr_nr (fun r2 er2 => ?_)
    replace h := h r2 er2
    refine g_aload_n C dX11_refusal_16 rfl 0 rfl ?_
    refine gr_get C iwx_X11 6 (hw kw_1815) (by decide) rfl rfl dX11_refusal_17 ?_
    refine g_if_le (tgt := 27) C dX11_refusal_20 (by decide) (fun z3 => ?_) (fun z3 => ?_)
    · replace h := h.1 z3
      refine g_iload_n C dX11_refusal_27 rfl 1 rfl ?_
      refine g_if_eq (tgt := 38) C dX11_refusal_28 (by decide) (fun z4 => ?_) (fun z4 => ?_)
      · replace h := h.1 z4
        refine g_aload_n C dX11_refusal_38 rfl 0 rfl ?_
        refine gr_get C iwx_X11 29 (hw kw_1838) (by decide) rfl rfl dX11_refusal_39 ?_
        exact gr_iret C hr dX11_refusal_42 h
      · replace h := h.2 z4
        refine g_aload_n C dX11_refusal_31 rfl 0 rfl ?_
        refine gr_get C iwx_X11 30 (hw kw_1839) (by decide) rfl rfl dX11_refusal_32 ?_
        refine g_goto (tgt := 42) C dX11_refusal_35 (by decide) ?_
        exact gr_iret C hr dX11_refusal_42 h
    · replace h := h.2 z3
      refine g_iconst (v := 0) C dX11_refusal_23 (by decide) ?_
      refine g_goto (tgt := 42) C dX11_refusal_24 (by decide) ?_
      exact gr_iret C hr dX11_refusal_42 h
  · replace h := h.2 z1
    refine g_iconst (v := 1) C dX11_refusal_8 (by decide) ?_
    refine g_goto (tgt := 13) C dX11_refusal_9 (by decide) ?_
    refine gr_put_6 C iwx_X11 (hw kw_1815) dX11_refusal_13 ?_
    refine gr_nr (fun r5 er5 => ?_)
    replace h := h r5 er5
    refine g_aload_n C dX11_refusal_16 rfl 0 rfl ?_
    refine gr_get C iwx_X11 6 (hw kw_1815) (by decide) rfl rfl dX11_refusal_17 ?_
    refine g_if_le (tgt := 27) C dX11_refusal_20 (by decide) (fun z6 => ?_) (fun z6 => ?_)
    · replace h := h.1 z6
      refine g_iload_n C dX11_refusal_27 rfl 1 rfl ?_
      refine g_if_eq (tgt := 38) C dX11_refusal_28 (by decide) (fun z7 => ?_) (fun z7 => ?_)
      · replace h := h.1 z7
        refine g_aload_n C dX11_refusal_38 rfl 0 rfl ?_
        refine gr_get C iwx_X11 29 (hw kw_1838) (by decide) rfl rfl dX11_refusal_39 ?_
        exact gr_iret C hr dX11_refusal_42 h
      · replace h := h.2 z7
        refine g_aload_n C dX11_refusal_31 rfl 0 rfl ?_
        refine gr_get C iwx_X11 30 (hw kw_1839) (by decide) rfl rfl dX11_refusal_32 ?_
        refine g_goto (tgt := 42) C dX11_refusal_35 (by decide) ?_
        exact gr_iret C hr dX11_refusal_42 h
    · replace h := h.2 z6
      refine g_iconst (v := 0) C dX11_refusal_23 (by decide) ?_
      refine g_goto (tgt := 42) C dX11_refusal_24 (by decide) ?_
      exact gr_iret C hr dX11_refusal_42 h
theorem c_X11_refusal (l : Launch) (D : va_G) (T : Nat → ClassId) (m0 : Nat) (a : Nat → Nat) (p0 : Int32) (r : Nat → Int32) (q : Nat → Nat → Int32) (P : Int32 → RST → Prop) (h : wp_X11_refusal P p0 r q) : RMi l yX11_refusal (ws_X11_refusal) rm_X11_refusal D T m0 a [.ref m0, .int p0] r q P := gr_meti (by decide) rfl rfl (Nat.le_of_ble_eq_true rfl) (fun p e s m args below meth c A C hr => t_X11_refusal C hr P p0 r q h)
theorem k_X11_refusal (l : Launch) (D : va_G) (T : Nat → ClassId) (m0 : Nat) (a : Nat → Nat) (p0 : Int32) (r : Nat → Int32) (q : Nat → Nat → Int32) : RMi l yX11_refusal (ws_X11_refusal) rm_X11_refusal D T m0 a [.ref m0, .int p0] r q (fun v u => (v = (if r 29 = 0 then 0 else if ¬ p0 = (0 : Int32) then r 30 else r 29) ∧ u.1 = va_up r 6 (if r 29 = 0 then 1 else 0) ∧ u.2 = q)) := c_X11_refusal l D T m0 a p0 r q _ <|
  (by
    unfold wp_X11_refusal
    refine ⟨fun c r2 e2 => ?_, fun c r2 e2 => ?_⟩ <;> subst e2 <;> simp [va_up_self, va_up_ne, c, Int32.le_refl]
    · by_cases e : p0 = 0 <;> simp [e])

end S_R5S
