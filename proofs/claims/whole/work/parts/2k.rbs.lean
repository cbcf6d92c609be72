section S_RBS
abbrev ws_X11_keepAs : List Cond := Cond.code yX11_keepAs cX11_keepAs 3 none :: W0
abbrev rm_X11_keepAs : Room := ({ frames := 0, cells := 0, slots := 0, locals := 0 } : Room)
def wb_X11_keepAs_0_52 (rec : Int32 → (Nat → Int32) → (Nat → Nat → Int32) → Prop) (P : RST → Prop) (x2 : Int32) (r : Nat → Int32) (q : Nat → Nat → Int32) : Prop := (3334 ≤ x2 → (∀ r3 : Nat → Int32, r3 = va_up r 5 ((r 5) + 1) → (P (r3, q)))) ∧ (¬ 3334 ≤ x2 → (vp_in x2 3334 ∧ (vp_in ((3334 * (r 5)) + x2) 26672 ∧ (∀ q6 : Nat → Nat → Int32, q6 = va_up q 3 (upd (q 3) (Int32.toNatClampNeg ((3334 * (r 5)) + x2)) (q 0 (Int32.toNatClampNeg x2))) → (∀ v7 : Int32, v7 = x2 + 1 → (rec v7 r q6))))))
def wp_X11_keepAs_0_52 (P : RST → Prop) : Nat → Int32 → (Nat → Int32) → (Nat → Nat → Int32) → Prop
  | 0 => fun _ _ _ => False
  | n + 1 => fun x2 r q => wb_X11_keepAs_0_52 (wp_X11_keepAs_0_52  P n)  P x2 r q
set_option maxRecDepth 100000 in
set_option maxHeartbeats 4000000 in
theorem t_X11_keepAs_0_52 {p : Program} {l : Launch} {e : Env} {s : State} {m : MethodId} {args : Array Value} {below : List Frame} {meth : Method} {c : Code} {D : va_G} {A : Nat → Prop} {T : Nat → ClassId} {m0 : Nat} {a : Nat → Nat} (C : GC p s m args meth c cX11_keepAs "FreightRaterModel" (ws_X11_keepAs) 3 D A (zty T)) (hr : meth.sig.returnType = none) (P : RST → Prop) : ∀ (n : Nat) (x2 : Int32) (r : Nat → Int32) (q : Nat → Nat → Int32), wp_X11_keepAs_0_52  P n x2 r q → GW p l e rm_X11_keepAs s m args below meth c D A 3 0 0 (MQ below (va_Qv P (RE D T m0 a A) A) args s 0 0 A) (RW m0 a T r q) 0 0 52 [(0, .ref m0), (1, .ref (a 0)), (2, .int x2)] [] := by
  have hw : ∀ {w : Cond}, w ∈ W0 → w.before args s = true := fun h => C.2.2.2.2.1 _ (List.mem_cons_of_mem _ h)
  intro n
  induction n with
  | zero => intro x2 r q h; exact h.elim
  | succ n ih =>
    intro x2 r q h
    replace h : wb_X11_keepAs_0_52 (wp_X11_keepAs_0_52  P n)  P x2 r q := h
    unfold wb_X11_keepAs_0_52 at h
    refine g_iload_n C dX11_keepAs_52 rfl 2 rfl ?_
    refine g_sipush (v := 3334) C dX11_keepAs_53 (by decide) ?_
    refine g_icmp_ge (tgt := 83) C dX11_keepAs_56 (by decide) (fun z2 => ?_) (fun z2 => ?_)
    · replace h := h.1 z2
      refine g_aload_n C dX11_keepAs_83 rfl 0 rfl ?_
      refine g_dup C dX11_keepAs_84 rfl ?_
      refine gr_get C iwx_X11 5 (hw kw_1814) (by decide) rfl rfl dX11_keepAs_85 ?_
      refine g_iconst (v := 1) C dX11_keepAs_88 (by decide) ?_
      refine g_iadd C dX11_keepAs_89 ?_
      refine gr_put_5 C iwx_X11 (hw kw_1814) dX11_keepAs_90 ?_
      refine gr_nr (fun r3 er3 => ?_)
      replace h := h r3 er3
      exact gr_vret C hr dX11_keepAs_93 h
    · replace h := h.2 z2
      refine g_aload_n C dX11_keepAs_59 rfl 0 rfl ?_
      refine gr_get C iwx_X11 4 (hw kw_1813) (by decide) rfl rfl dX11_keepAs_60 ?_
      refine g_sipush (v := 3334) C dX11_keepAs_63 (by decide) ?_
      refine g_aload_n C dX11_keepAs_66 rfl 0 rfl ?_
      refine gr_get C iwx_X11 5 (hw kw_1814) (by decide) rfl rfl dX11_keepAs_67 ?_
      refine g_imul C dX11_keepAs_70 ?_
      refine g_iload_n C dX11_keepAs_71 rfl 2 rfl ?_
      refine g_iadd C dX11_keepAs_72 ?_
      refine g_aload_n C dX11_keepAs_73 rfl 1 rfl ?_
      refine g_iload_n C dX11_keepAs_74 rfl 2 rfl ?_
      obtain ⟨g4, h⟩ := h
      refine gr_ald_0 C g4 dX11_keepAs_75 ?_
      obtain ⟨g5, h⟩ := h
      refine gr_ast_3 C g5 dX11_keepAs_76 ?_
      refine gr_nq (fun q6 eq6 => ?_)
      replace h := h q6 eq6
      obtain ⟨v7, ev7⟩ : ∃ y : Int32, y = x2 + 1 := ⟨_, rfl⟩
      replace h := h v7 ev7
      refine g_iinc (v := v7) (lv' := [(2, .int v7), (0, .ref m0), (1, .ref (a 0))]) C dX11_keepAs_77 (j := 2) rfl (by rw [ev7]; rfl) (by decide) rfl ?_
      refine g_goto (tgt := 52) C dX11_keepAs_80 (by decide) ?_
      refine g_locals [1, 2, 0] rfl ?_
      exact ih v7 r q6 h
def wb_X11_keepAs_0_11 (rec : Int32 → (Nat → Int32) → (Nat → Nat → Int32) → Prop) (K40 : (Nat → Int32) → (Nat → Nat → Int32) → Prop) (P : RST → Prop) (x2 : Int32) (r : Nat → Int32) (q : Nat → Nat → Int32) : Prop := (23338 ≤ x2 → (K40 r q)) ∧ (¬ 23338 ≤ x2 → (vp_in (x2 + 3334) 26672 ∧ (vp_in x2 26672 ∧ (∀ q12 : Nat → Nat → Int32, q12 = va_up q 3 (upd (q 3) (Int32.toNatClampNeg x2) (q 3 (Int32.toNatClampNeg (x2 + 3334)))) → (∀ v13 : Int32, v13 = x2 + 1 → (rec v13 r q12))))))
def wp_X11_keepAs_0_11 (K40 : (Nat → Int32) → (Nat → Nat → Int32) → Prop) (P : RST → Prop) : Nat → Int32 → (Nat → Int32) → (Nat → Nat → Int32) → Prop
  | 0 => fun _ _ _ => False
  | n + 1 => fun x2 r q => wb_X11_keepAs_0_11 (wp_X11_keepAs_0_11 K40 P n) K40 P x2 r q
set_option maxRecDepth 100000 in
set_option maxHeartbeats 4000000 in
theorem t_X11_keepAs_0_11 {p : Program} {l : Launch} {e : Env} {s : State} {m : MethodId} {args : Array Value} {below : List Frame} {meth : Method} {c : Code} {D : va_G} {A : Nat → Prop} {T : Nat → ClassId} {m0 : Nat} {a : Nat → Nat} (C : GC p s m args meth c cX11_keepAs "FreightRaterModel" (ws_X11_keepAs) 3 D A (zty T)) (hr : meth.sig.returnType = none) (K40 : (Nat → Int32) → (Nat → Nat → Int32) → Prop) (P : RST → Prop) (hK40 : ∀ (r : Nat → Int32) (q : Nat → Nat → Int32), K40 r q → GW p l e rm_X11_keepAs s m args below meth c D A 3 0 0 (MQ below (va_Qv P (RE D T m0 a A) A) args s 0 0 A) (RW m0 a T r q) 0 0 40 [(0, .ref m0), (1, .ref (a 0))] []) : ∀ (n : Nat) (x2 : Int32) (r : Nat → Int32) (q : Nat → Nat → Int32), wp_X11_keepAs_0_11 K40 P n x2 r q → GW p l e rm_X11_keepAs s m args below meth c D A 3 0 0 (MQ below (va_Qv P (RE D T m0 a A) A) args s 0 0 A) (RW m0 a T r q) 0 0 11 [(0, .ref m0), (1, .ref (a 0)), (2, .int x2)] [] := by
  have hw : ∀ {w : Cond}, w ∈ W0 → w.before args s = true := fun h => C.2.2.2.2.1 _ (List.mem_cons_of_mem _ h)
  intro n
  induction n with
  | zero => intro x2 r q h; exact h.elim
  | succ n ih =>
    intro x2 r q h
    replace h : wb_X11_keepAs_0_11 (wp_X11_keepAs_0_11 K40 P n) K40 P x2 r q := h
    unfold wb_X11_keepAs_0_11 at h
    refine g_iload_n C dX11_keepAs_11 rfl 2 rfl ?_
    refine g_sipush (v := 23338) C dX11_keepAs_12 (by decide) ?_
    refine g_icmp_ge (tgt := 40) C dX11_keepAs_15 (by decide) (fun z9 => ?_) (fun z9 => ?_)
    · replace h := h.1 z9
      refine g_locals [0, 1] rfl ?_
      exact hK40 r q h
    · replace h := h.2 z9
      refine g_aload_n C dX11_keepAs_18 rfl 0 rfl ?_
      refine gr_get C iwx_X11 4 (hw kw_1813) (by decide) rfl rfl dX11_keepAs_19 ?_
      refine g_iload_n C dX11_keepAs_22 rfl 2 rfl ?_
      refine g_aload_n C dX11_keepAs_23 rfl 0 rfl ?_
      refine gr_get C iwx_X11 4 (hw kw_1813) (by decide) rfl rfl dX11_keepAs_24 ?_
      refine g_iload_n C dX11_keepAs_27 rfl 2 rfl ?_
      refine g_sipush (v := 3334) C dX11_keepAs_28 (by decide) ?_
      refine g_iadd C dX11_keepAs_31 ?_
      obtain ⟨g10, h⟩ := h
      refine gr_ald_3 C g10 dX11_keepAs_32 ?_
      obtain ⟨g11, h⟩ := h
      refine gr_ast_3 C g11 dX11_keepAs_33 ?_
      refine gr_nq (fun q12 eq12 => ?_)
      replace h := h q12 eq12
      obtain ⟨v13, ev13⟩ : ∃ y : Int32, y = x2 + 1 := ⟨_, rfl⟩
      replace h := h v13 ev13
      refine g_iinc (v := v13) (lv' := [(2, .int v13), (0, .ref m0), (1, .ref (a 0))]) C dX11_keepAs_34 (j := 2) rfl (by rw [ev13]; rfl) (by decide) rfl ?_
      refine g_goto (tgt := 11) C dX11_keepAs_37 (by decide) ?_
      refine g_locals [1, 2, 0] rfl ?_
      exact ih v13 r q12 h
def wp_X11_keepAs_0 (P : RST → Prop)  (r : Nat → Int32) (q : Nat → Nat → Int32) : Prop := (¬ (r 5) = 8 → (∃ k8 : Nat, wp_X11_keepAs_0_52  P k8 0 r q)) ∧ ((r 5) = 8 → (∃ k18 : Nat, wp_X11_keepAs_0_11 (fun (r14 : Nat → Int32) (q15 : Nat → Nat → Int32) => ∀ r16 : Nat → Int32, r16 = va_up r14 5 ((r14 5) - 1) → (∃ k17 : Nat, wp_X11_keepAs_0_52  P k17 0 r16 q15)) P k18 0 r q))
set_option maxRecDepth 100000 in
set_option maxHeartbeats 4000000 in
theorem t_X11_keepAs_0 {p : Program} {l : Launch} {e : Env} {s : State} {m : MethodId} {args : Array Value} {below : List Frame} {meth : Method} {c : Code} {D : va_G} {A : Nat → Prop} {T : Nat → ClassId} {m0 : Nat} {a : Nat → Nat} (C : GC p s m args meth c cX11_keepAs "FreightRaterModel" (ws_X11_keepAs) 3 D A (zty T)) (hr : meth.sig.returnType = none) (P : RST → Prop) : ∀  (r : Nat → Int32) (q : Nat → Nat → Int32), wp_X11_keepAs_0 P  r q → GW p l e rm_X11_keepAs s m args below meth c D A 3 0 0 (MQ below (va_Qv P (RE D T m0 a A) A) args s 0 0 A) (RW m0 a T r q) 0 0 0 [(0, .ref m0), (1, .ref (a 0))] [] := by
  have hw : ∀ {w : Cond}, w ∈ W0 → w.before args s = true := fun h => C.2.2.2.2.1 _ (List.mem_cons_of_mem _ h)
  intro  r q h
  unfold wp_X11_keepAs_0 at h
  refine g_aload_n C dX11_keepAs_0 rfl 0 rfl ?_
  refine gr_get C iwx_X11 5 (hw kw_1814) (by decide) rfl rfl dX11_keepAs_1 ?_
  refine g_bipush (v := 8) C dX11_keepAs_4 (by decide) ?_
  refine g_icmp_ne (tgt := 50) C dX11_keepAs_6 (by decide) (fun z1 => ?_) (fun z1 => ?_)
  · replace h := h.1 z1
    refine g_iconst (v := 0) C dX11_keepAs_50 (by decide) ?_
    refine g_istore_n (lv' := [(2, .int 0), (0, .ref m0), (1, .ref (a 0))]) C dX11_keepAs_51 rfl (by decide) rfl ?_
    refine g_locals [1, 2, 0] rfl ?_
    obtain ⟨k8, h⟩ := h
    refine t_X11_keepAs_0_52 C hr  P  k8 0 r q h
  · replace h := h.2 z1
    refine g_iconst (v := 0) C dX11_keepAs_9 (by decide) ?_
    refine g_istore_n (lv' := [(2, .int 0), (0, .ref m0), (1, .ref (a 0))]) C dX11_keepAs_10 rfl (by decide) rfl ?_
    refine g_locals [1, 2, 0] rfl ?_
    obtain ⟨k18, h⟩ := h
    refine t_X11_keepAs_0_11 C hr _ P ?_ k18 0 r q h
    · intro r14 q15 h
      refine g_aload_n C dX11_keepAs_40 rfl 0 rfl ?_
      refine g_dup C dX11_keepAs_41 rfl ?_
      refine gr_get C iwx_X11 5 (hw kw_1814) (by decide) rfl rfl dX11_keepAs_42 ?_
      refine g_iconst (v := 1) C dX11_keepAs_45 (by decide) ?_
      refine g_isub C dX11_keepAs_46 ?_
      refine gr_put_5 C iwx_X11 (hw kw_1814) dX11_keepAs_47 ?_
      refine gr_nr (fun r16 er16 => ?_)
      replace h := h r16 er16
      refine g_iconst (v := 0) C dX11_keepAs_50 (by decide) ?_
      refine g_istore_n (lv' := [(2, .int 0), (0, .ref m0), (1, .ref (a 0))]) C dX11_keepAs_51 rfl (by decide) rfl ?_
      refine g_locals [1, 2, 0] rfl ?_
      obtain ⟨k17, h⟩ := h
      refine t_X11_keepAs_0_52 C hr  P  k17 0 r16 q15 h
theorem c_X11_keepAs_0 (l : Launch) (D : va_G) (T : Nat → ClassId) (m0 : Nat) (a : Nat → Nat)  (r : Nat → Int32) (q : Nat → Nat → Int32) (P : RST → Prop) (h : wp_X11_keepAs_0 P  r q) : RMv l yX11_keepAs (ws_X11_keepAs) rm_X11_keepAs D T m0 a [.ref m0, .ref (a 0)] r q P := gr_metv (by decide) rfl rfl (Nat.le_of_ble_eq_true rfl) (fun p e s m args below meth c A C hr => t_X11_keepAs_0 C hr P  r q h)
theorem rl_keep52_0 {P : RST → Prop} {r : Nat → Int32} {q : Nat → Nat → Int32} {c : Nat} (hc : c < 8) (hr : r 5 = nI c) (hP : ∀ (q1 : Nat → Nat → Int32), kQ q q1 [3] → (∀ i, i < 3334 * c → q1 3 i = q 3 i) → (∀ k, k < 3334 → q1 3 (3334 * c + k) = q 0 k) → P (va_up r 5 (nI (c + 1)), q1)) : ∀ (k x fuel : Nat) (q' : Nat → Nat → Int32), x + k = 3334 → k < fuel → kQ q q' [3] → (∀ i, i < 3334 * c → q' 3 i = q 3 i) → (∀ j, j < x → q' 3 (3334 * c + j) = q 0 j) → wp_X11_keepAs_0_52 P fuel (nI x) r q' := by
  intro k
  induction k with
  | zero =>
    intro x fuel q' hx hf hq h1 h2
    obtain ⟨f, rfl⟩ : ∃ f, fuel = f + 1 := ⟨fuel - 1, by omega⟩; rw [wp_X11_keepAs_0_52]; unfold wb_X11_keepAs_0_52; dsimp only
    simp (disch := omega) only [hr, li_2, li_3, li_4, li_5, li_6, li_7, li_8, li_9, li_10, li_12, li_14, li_20, li_26, li_30, li_31, li_36, li_38, li_47, li_48, li_50, li_57, li_58, li_80, li_98, li_99, li_100, li_102, li_104, li_105, li_108, li_109, li_110, li_114, li_115, li_119, li_122, li_137, li_146, li_147, li_148, li_149, li_150, li_200, li_255, li_256, li_274, li_510, li_512, li_640, li_999, li_1000, li_1024, li_3334, li_5000, li_9999, li_10000, li_23338, li_26672, li_30000, li_99999, li_150000, li_300000, pk_mul, nI_add, pk_sub, nI_clamp, nI_1, nI_p1, nI_a0, nI_0a, nI_m0, nI_m1, cl_0, cl_1, z01, z11, nI_leI, nI_ltI, nI_eq, nz_lt0, nz_le, nz_eq0, nz_pos, nz_le0, nz_eq1, nz_lt1, nz_ge1, nz_le1, nz_gt1, nz_vp, nz_vp0, nz_vp1, six_nI, vix_nI, bix_nI, pix_nI, fix_nI, gix_nI, rix_nI, zix_nI, pix_0, pix_1, bix_0, fix_0, fix_1, rix_1, true_and, and_true]
    refine ⟨fun _ r3 e3 => ?_, fun h => absurd (by omega) h⟩
    subst e3
    exact hP q' hq h1 (fun k hk => h2 k (by omega))
  | succ k ih =>
    intro x fuel q' hx hf hq h1 h2
    obtain ⟨f, rfl⟩ : ∃ f, fuel = f + 1 := ⟨fuel - 1, by omega⟩; rw [wp_X11_keepAs_0_52]; unfold wb_X11_keepAs_0_52; dsimp only
    simp (disch := omega) only [hr, li_2, li_3, li_4, li_5, li_6, li_7, li_8, li_9, li_10, li_12, li_14, li_20, li_26, li_30, li_31, li_36, li_38, li_47, li_48, li_50, li_57, li_58, li_80, li_98, li_99, li_100, li_102, li_104, li_105, li_108, li_109, li_110, li_114, li_115, li_119, li_122, li_137, li_146, li_147, li_148, li_149, li_150, li_200, li_255, li_256, li_274, li_510, li_512, li_640, li_999, li_1000, li_1024, li_3334, li_5000, li_9999, li_10000, li_23338, li_26672, li_30000, li_99999, li_150000, li_300000, pk_mul, nI_add, pk_sub, nI_clamp, nI_1, nI_p1, nI_a0, nI_0a, nI_m0, nI_m1, cl_0, cl_1, z01, z11, nI_leI, nI_ltI, nI_eq, nz_lt0, nz_le, nz_eq0, nz_pos, nz_le0, nz_eq1, nz_lt1, nz_ge1, nz_le1, nz_gt1, nz_vp, nz_vp0, nz_vp1, six_nI, vix_nI, bix_nI, pix_nI, fix_nI, gix_nI, rix_nI, zix_nI, pix_0, pix_1, bix_0, fix_0, fix_1, rix_1, true_and, and_true]
    refine ⟨fun h => absurd h (by omega), fun _ => ⟨by omega, by omega, fun q6 e6 v7 e7 => ?_⟩⟩
    subst e7
    have e0 : q' 0 = q 0 := hq 0 (by decide)
    refine ih (x + 1) f q6 (by omega) (by omega) (by rw [e6]; exact hq.up (by decide) _) (fun i hi => ?_) (fun j hj => ?_)
    · rw [e6, va_up_self, pk_un (by omega)]; exact h1 i hi
    · rw [e6, va_up_self]
      by_cases e : j = x
      · subst e; rw [pk_us, e0]
      · rw [pk_un (by omega)]; exact h2 j (by omega)
theorem rl_keep11_0 {K : (Nat → Int32) → (Nat → Nat → Int32) → Prop} {P : RST → Prop} {r : Nat → Int32} {q : Nat → Nat → Int32} (hP : ∀ (q1 : Nat → Nat → Int32), kQ q q1 [3] → (∀ i, i < 23338 → q1 3 i = q 3 (i + 3334)) → K r q1) : ∀ (k x fuel : Nat) (q' : Nat → Nat → Int32), x + k = 23338 → k < fuel → kQ q q' [3] → (∀ i, i < x → q' 3 i = q 3 (i + 3334)) → (∀ i, x ≤ i → q' 3 i = q 3 i) → wp_X11_keepAs_0_11 K P fuel (nI x) r q' := by
  intro k
  induction k with
  | zero =>
    intro x fuel q' hx hf hq h1 h2
    obtain ⟨f, rfl⟩ : ∃ f, fuel = f + 1 := ⟨fuel - 1, by omega⟩; rw [wp_X11_keepAs_0_11]; unfold wb_X11_keepAs_0_11; dsimp only
    simp (disch := omega) only [li_2, li_3, li_4, li_5, li_6, li_7, li_8, li_9, li_10, li_12, li_14, li_20, li_26, li_30, li_31, li_36, li_38, li_47, li_48, li_50, li_57, li_58, li_80, li_98, li_99, li_100, li_102, li_104, li_105, li_108, li_109, li_110, li_114, li_115, li_119, li_122, li_137, li_146, li_147, li_148, li_149, li_150, li_200, li_255, li_256, li_274, li_510, li_512, li_640, li_999, li_1000, li_1024, li_3334, li_5000, li_9999, li_10000, li_23338, li_26672, li_30000, li_99999, li_150000, li_300000, pk_mul, nI_add, pk_sub, nI_clamp, nI_1, nI_p1, nI_a0, nI_0a, nI_m0, nI_m1, cl_0, cl_1, z01, z11, nI_leI, nI_ltI, nI_eq, nz_lt0, nz_le, nz_eq0, nz_pos, nz_le0, nz_eq1, nz_lt1, nz_ge1, nz_le1, nz_gt1, nz_vp, nz_vp0, nz_vp1, six_nI, vix_nI, bix_nI, pix_nI, fix_nI, gix_nI, rix_nI, zix_nI, pix_0, pix_1, bix_0, fix_0, fix_1, rix_1, true_and, and_true]
    exact ⟨fun _ => hP q' hq (fun i hi => h1 i (by omega)), fun h => absurd (by omega) h⟩
  | succ k ih =>
    intro x fuel q' hx hf hq h1 h2
    obtain ⟨f, rfl⟩ : ∃ f, fuel = f + 1 := ⟨fuel - 1, by omega⟩; rw [wp_X11_keepAs_0_11]; unfold wb_X11_keepAs_0_11; dsimp only
    simp (disch := omega) only [li_2, li_3, li_4, li_5, li_6, li_7, li_8, li_9, li_10, li_12, li_14, li_20, li_26, li_30, li_31, li_36, li_38, li_47, li_48, li_50, li_57, li_58, li_80, li_98, li_99, li_100, li_102, li_104, li_105, li_108, li_109, li_110, li_114, li_115, li_119, li_122, li_137, li_146, li_147, li_148, li_149, li_150, li_200, li_255, li_256, li_274, li_510, li_512, li_640, li_999, li_1000, li_1024, li_3334, li_5000, li_9999, li_10000, li_23338, li_26672, li_30000, li_99999, li_150000, li_300000, pk_mul, nI_add, pk_sub, nI_clamp, nI_1, nI_p1, nI_a0, nI_0a, nI_m0, nI_m1, cl_0, cl_1, z01, z11, nI_leI, nI_ltI, nI_eq, nz_lt0, nz_le, nz_eq0, nz_pos, nz_le0, nz_eq1, nz_lt1, nz_ge1, nz_le1, nz_gt1, nz_vp, nz_vp0, nz_vp1, six_nI, vix_nI, bix_nI, pix_nI, fix_nI, gix_nI, rix_nI, zix_nI, pix_0, pix_1, bix_0, fix_0, fix_1, rix_1, true_and, and_true]
    refine ⟨fun h => absurd h (by omega), fun _ => ⟨by omega, by omega, fun q6 e6 v7 e7 => ?_⟩⟩
    subst e7
    refine ih (x + 1) f q6 (by omega) (by omega) (by rw [e6]; exact hq.up (by decide) _) (fun i hi => ?_) (fun j hj => ?_)
    · rw [e6, va_up_self]
      by_cases e : i = x
      · subst e; rw [pk_us]; exact h2 _ (by omega)
      · rw [pk_un (by omega)]; exact h1 i (by omega)
    · rw [e6, va_up_self, pk_un (by omega)]; exact h2 j (by omega)
theorem k_X11_keepAs_0 (l : Launch) (D : va_G) (T : Nat → ClassId) (m0 : Nat) (a : Nat → Nat)  (r : Nat → Int32) (q : Nat → Nat → Int32) (h : CW8 r) : RMv l yX11_keepAs (ws_X11_keepAs) rm_X11_keepAs D T m0 a [.ref m0, .ref (a 0)] r q (fun u => (kR r u.1 [5] ∧ kQ q u.2 [3] ∧ psh (q 3) (u.2 3) (q 0) (r 5) (u.1 5))) := c_X11_keepAs_0 l D T m0 a  r q _ <|
  (by
    obtain ⟨n, hn, e5⟩ := h
    unfold wp_X11_keepAs_0
    refine ⟨fun c => ?_, fun c => ?_⟩
    · have hn8 : n < 8 := by
        rcases Nat.lt_or_ge n 8 with z | z
        · exact z
        · exact absurd (by rw [e5, show n = 8 by omega]; rfl) c
      refine ⟨3335, rl_keep52_0 (c := n) hn8 e5 (fun q1 a1 a2 a3 => ⟨kR.rf.up (by decide) _, a1, n, hn, e5, ?_⟩) 3334 0 _ q (by omega) (by omega) kQ.rf (fun _ _ => rfl) (fun j hj => absurd hj (by omega))⟩
      rw [if_pos hn8]
      exact ⟨(by (try dsimp only); exact va_up_self _ _ _), fun j k hj hk => a2 _ (by omega), a3⟩
    · have hn8 : n = 8 := by rw [e5] at c; exact (nI_eq (by omega) (by decide)).mp (show nI n = nI 8 from c)
      subst hn8
      refine ⟨23339, rl_keep11_0 (fun q1 a1 a2 => ?_) 23338 0 _ q (by omega) (by omega) kQ.rf (fun j hj => absurd hj (by omega)) (fun _ _ => rfl)⟩
      intro r16 e16
      have e7 : r16 5 = nI 7 := by rw [e16, va_up_self, e5]; rfl
      have ej : q1 0 = q 0 := a1 0 (by decide)
      refine ⟨3335, rl_keep52_0 (c := 7) (by decide) e7 (fun q2 b1 b2 b3 => ⟨?_, (a1.tr b1 (fun _ h => h) (fun _ h => h)), 8, by decide, e5, ?_⟩) 3334 0 _ q1 (by omega) (by omega) kQ.rf (fun _ _ => rfl) (fun j hj => absurd hj (by omega))⟩
      · rw [e16]; exact (kR.rf.up (by decide) _).up (by decide) _
      · rw [if_neg (by decide)]
        refine ⟨(by (try dsimp only); exact va_up_self _ _ _), fun j k hj hk => ?_, fun k hk => by rw [← ej]; exact b3 k hk⟩
        rw [show ((va_up r16 5 (nI (7 + 1)), q2) : RST).2 = q2 from rfl, b2 _ (by omega), a2 _ (by omega)]
        congr 1; omega)
def wb_X11_keepAs_2_52 (rec : Int32 → (Nat → Int32) → (Nat → Nat → Int32) → Prop) (P : RST → Prop) (x2 : Int32) (r : Nat → Int32) (q : Nat → Nat → Int32) : Prop := (3334 ≤ x2 → (∀ r3 : Nat → Int32, r3 = va_up r 5 ((r 5) + 1) → (P (r3, q)))) ∧ (¬ 3334 ≤ x2 → (vp_in x2 3334 ∧ (vp_in ((3334 * (r 5)) + x2) 26672 ∧ (∀ q6 : Nat → Nat → Int32, q6 = va_up q 3 (upd (q 3) (Int32.toNatClampNeg ((3334 * (r 5)) + x2)) (q 2 (Int32.toNatClampNeg x2))) → (∀ v7 : Int32, v7 = x2 + 1 → (rec v7 r q6))))))
def wp_X11_keepAs_2_52 (P : RST → Prop) : Nat → Int32 → (Nat → Int32) → (Nat → Nat → Int32) → Prop
  | 0 => fun _ _ _ => False
  | n + 1 => fun x2 r q => wb_X11_keepAs_2_52 (wp_X11_keepAs_2_52  P n)  P x2 r q
set_option maxRecDepth 100000 in
set_option maxHeartbeats 4000000 in
theorem t_X11_keepAs_2_52 {p : Program} {l : Launch} {e : Env} {s : State} {m : MethodId} {args : Array Value} {below : List Frame} {meth : Method} {c : Code} {D : va_G} {A : Nat → Prop} {T : Nat → ClassId} {m0 : Nat} {a : Nat → Nat} (C : GC p s m args meth c cX11_keepAs "FreightRaterModel" (ws_X11_keepAs) 3 D A (zty T)) (hr : meth.sig.returnType = none) (P : RST → Prop) : ∀ (n : Nat) (x2 : Int32) (r : Nat → Int32) (q : Nat → Nat → Int32), wp_X11_keepAs_2_52  P n x2 r q → GW p l e rm_X11_keepAs s m args below meth c D A 3 0 0 (MQ below (va_Qv P (RE D T m0 a A) A) args s 0 0 A) (RW m0 a T r q) 0 0 52 [(0, .ref m0), (1, .ref (a 2)), (2, .int x2)] [] := by
  have hw : ∀ {w : Cond}, w ∈ W0 → w.before args s = true := fun h => C.2.2.2.2.1 _ (List.mem_cons_of_mem _ h)
  intro n
  induction n with
  | zero => intro x2 r q h; exact h.elim
  | succ n ih =>
    intro x2 r q h
    replace h : wb_X11_keepAs_2_52 (wp_X11_keepAs_2_52  P n)  P x2 r q := h
    unfold wb_X11_keepAs_2_52 at h
    refine g_iload_n C dX11_keepAs_52 rfl 2 rfl ?_
    refine g_sipush (v := 3334) C dX11_keepAs_53 (by decide) ?_
    refine g_icmp_ge (tgt := 83) C dX11_keepAs_56 (by decide) (fun z2 => ?_) (fun z2 => ?_)
    · replace h := h.1 z2
      refine g_aload_n C dX11_keepAs_83 rfl 0 rfl ?_
      refine g_dup C dX11_keepAs_84 rfl ?_
      refine gr_get C iwx_X11 5 (hw kw_1814) (by decide) rfl rfl dX11_keepAs_85 ?_
      refine g_iconst (v := 1) C dX11_keepAs_88 (by decide) ?_
      refine g_iadd C dX11_keepAs_89 ?_
      refine gr_put_5 C iwx_X11 (hw kw_1814) dX11_keepAs_90 ?_
      refine gr_nr (fun r3 er3 => ?_)
      replace h := h r3 er3
      exact gr_vret C hr dX11_keepAs_93 h
    · replace h := h.2 z2
      refine g_aload_n C dX11_keepAs_59 rfl 0 rfl ?_
      refine gr_get C iwx_X11 4 (hw kw_1813) (by decide) rfl rfl dX11_keepAs_60 ?_
      refine g_sipush (v := 3334) C dX11_keepAs_63 (by decide) ?_
      refine g_aload_n C dX11_keepAs_66 rfl 0 rfl ?_
      refine gr_get C iwx_X11 5 (hw kw_1814) (by decide) rfl rfl dX11_keepAs_67 ?_
      refine g_imul C dX11_keepAs_70 ?_
      refine g_iload_n C dX11_keepAs_71 rfl 2 rfl ?_
      refine g_iadd C dX11_keepAs_72 ?_
      refine g_aload_n C dX11_keepAs_73 rfl 1 rfl ?_
      refine g_iload_n C dX11_keepAs_74 rfl 2 rfl ?_
      obtain ⟨g4, h⟩ := h
      refine gr_ald_2 C g4 dX11_keepAs_75 ?_
      obtain ⟨g5, h⟩ := h
      refine gr_ast_3 C g5 dX11_keepAs_76 ?_
      refine gr_nq (fun q6 eq6 => ?_)
      replace h := h q6 eq6
      obtain ⟨v7, ev7⟩ : ∃ y : Int32, y = x2 + 1 := ⟨_, rfl⟩
      replace h := h v7 ev7
      refine g_iinc (v := v7) (lv' := [(2, .int v7), (0, .ref m0), (1, .ref (a 2))]) C dX11_keepAs_77 (j := 2) rfl (by rw [ev7]; rfl) (by decide) rfl ?_
      refine g_goto (tgt := 52) C dX11_keepAs_80 (by decide) ?_
      refine g_locals [1, 2, 0] rfl ?_
      exact ih v7 r q6 h
def wb_X11_keepAs_2_11 (rec : Int32 → (Nat → Int32) → (Nat → Nat → Int32) → Prop) (K40 : (Nat → Int32) → (Nat → Nat → Int32) → Prop) (P : RST → Prop) (x2 : Int32) (r : Nat → Int32) (q : Nat → Nat → Int32) : Prop := (23338 ≤ x2 → (K40 r q)) ∧ (¬ 23338 ≤ x2 → (vp_in (x2 + 3334) 26672 ∧ (vp_in x2 26672 ∧ (∀ q12 : Nat → Nat → Int32, q12 = va_up q 3 (upd (q 3) (Int32.toNatClampNeg x2) (q 3 (Int32.toNatClampNeg (x2 + 3334)))) → (∀ v13 : Int32, v13 = x2 + 1 → (rec v13 r q12))))))
def wp_X11_keepAs_2_11 (K40 : (Nat → Int32) → (Nat → Nat → Int32) → Prop) (P : RST → Prop) : Nat → Int32 → (Nat → Int32) → (Nat → Nat → Int32) → Prop
  | 0 => fun _ _ _ => False
  | n + 1 => fun x2 r q => wb_X11_keepAs_2_11 (wp_X11_keepAs_2_11 K40 P n) K40 P x2 r q
set_option maxRecDepth 100000 in
set_option maxHeartbeats 4000000 in
theorem t_X11_keepAs_2_11 {p : Program} {l : Launch} {e : Env} {s : State} {m : MethodId} {args : Array Value} {below : List Frame} {meth : Method} {c : Code} {D : va_G} {A : Nat → Prop} {T : Nat → ClassId} {m0 : Nat} {a : Nat → Nat} (C : GC p s m args meth c cX11_keepAs "FreightRaterModel" (ws_X11_keepAs) 3 D A (zty T)) (hr : meth.sig.returnType = none) (K40 : (Nat → Int32) → (Nat → Nat → Int32) → Prop) (P : RST → Prop) (hK40 : ∀ (r : Nat → Int32) (q : Nat → Nat → Int32), K40 r q → GW p l e rm_X11_keepAs s m args below meth c D A 3 0 0 (MQ below (va_Qv P (RE D T m0 a A) A) args s 0 0 A) (RW m0 a T r q) 0 0 40 [(0, .ref m0), (1, .ref (a 2))] []) : ∀ (n : Nat) (x2 : Int32) (r : Nat → Int32) (q : Nat → Nat → Int32), wp_X11_keepAs_2_11 K40 P n x2 r q → GW p l e rm_X11_keepAs s m args below meth c D A 3 0 0 (MQ below (va_Qv P (RE D T m0 a A) A) args s 0 0 A) (RW m0 a T r q) 0 0 11 [(0, .ref m0), (1, .ref (a 2)), (2, .int x2)] [] := by
  have hw : ∀ {w : Cond}, w ∈ W0 → w.before args s = true := fun h => C.2.2.2.2.1 _ (List.mem_cons_of_mem _ h)
  intro n
  induction n with
  | zero => intro x2 r q h; exact h.elim
  | succ n ih =>
    intro x2 r q h
    replace h : wb_X11_keepAs_2_11 (wp_X11_keepAs_2_11 K40 P n) K40 P x2 r q := h
    unfold wb_X11_keepAs_2_11 at h
    refine g_iload_n C dX11_keepAs_11 rfl 2 rfl ?_
    refine g_sipush (v := 23338) C dX11_keepAs_12 (by decide) ?_
    refine g_icmp_ge (tgt := 40) C dX11_keepAs_15 (by decide) (fun z9 => ?_) (fun z9 => ?_)
    · replace h := h.1 z9
      refine g_locals [0, 1] rfl ?_
      exact hK40 r q h
    · replace h := h.2 z9
      refine g_aload_n C dX11_keepAs_18 rfl 0 rfl ?_
      refine gr_get C iwx_X11 4 (hw kw_1813) (by decide) rfl rfl dX11_keepAs_19 ?_
      refine g_iload_n C dX11_keepAs_22 rfl 2 rfl ?_
      refine g_aload_n C dX11_keepAs_23 rfl 0 rfl ?_
      refine gr_get C iwx_X11 4 (hw kw_1813) (by decide) rfl rfl dX11_keepAs_24 ?_
      refine g_iload_n C dX11_keepAs_27 rfl 2 rfl ?_
      refine g_sipush (v := 3334) C dX11_keepAs_28 (by decide) ?_
      refine g_iadd C dX11_keepAs_31 ?_
      obtain ⟨g10, h⟩ := h
      refine gr_ald_3 C g10 dX11_keepAs_32 ?_
      obtain ⟨g11, h⟩ := h
      refine gr_ast_3 C g11 dX11_keepAs_33 ?_
      refine gr_nq (fun q12 eq12 => ?_)
      replace h := h q12 eq12
      obtain ⟨v13, ev13⟩ : ∃ y : Int32, y = x2 + 1 := ⟨_, rfl⟩
      replace h := h v13 ev13
      refine g_iinc (v := v13) (lv' := [(2, .int v13), (0, .ref m0), (1, .ref (a 2))]) C dX11_keepAs_34 (j := 2) rfl (by rw [ev13]; rfl) (by decide) rfl ?_
      refine g_goto (tgt := 11) C dX11_keepAs_37 (by decide) ?_
      refine g_locals [1, 2, 0] rfl ?_
      exact ih v13 r q12 h
def wp_X11_keepAs_2 (P : RST → Prop)  (r : Nat → Int32) (q : Nat → Nat → Int32) : Prop := (¬ (r 5) = 8 → (∃ k8 : Nat, wp_X11_keepAs_2_52  P k8 0 r q)) ∧ ((r 5) = 8 → (∃ k18 : Nat, wp_X11_keepAs_2_11 (fun (r14 : Nat → Int32) (q15 : Nat → Nat → Int32) => ∀ r16 : Nat → Int32, r16 = va_up r14 5 ((r14 5) - 1) → (∃ k17 : Nat, wp_X11_keepAs_2_52  P k17 0 r16 q15)) P k18 0 r q))
set_option maxRecDepth 100000 in
set_option maxHeartbeats 4000000 in
theorem t_X11_keepAs_2 {p : Program} {l : Launch} {e : Env} {s : State} {m : MethodId} {args : Array Value} {below : List Frame} {meth : Method} {c : Code} {D : va_G} {A : Nat → Prop} {T : Nat → ClassId} {m0 : Nat} {a : Nat → Nat} (C : GC p s m args meth c cX11_keepAs "FreightRaterModel" (ws_X11_keepAs) 3 D A (zty T)) (hr : meth.sig.returnType = none) (P : RST → Prop) : ∀  (r : Nat → Int32) (q : Nat → Nat → Int32), wp_X11_keepAs_2 P  r q → GW p l e rm_X11_keepAs s m args below meth c D A 3 0 0 (MQ below (va_Qv P (RE D T m0 a A) A) args s 0 0 A) (RW m0 a T r q) 0 0 0 [(0, .ref m0), (1, .ref (a 2))] [] := by
  have hw : ∀ {w : Cond}, w ∈ W0 → w.before args s = true := fun h => C.2.2.2.2.1 _ (List.mem_cons_of_mem _ h)
  intro  r q h
  unfold wp_X11_keepAs_2 at h
  refine g_aload_n C dX11_keepAs_0 rfl 0 rfl ?_
  refine gr_get C iwx_X11 5 (hw kw_1814) (by decide) rfl rfl dX11_keepAs_1 ?_
  refine g_bipush (v := 8) C dX11_keepAs_4 (by decide) ?_
  refine g_icmp_ne (tgt := 50) C dX11_keepAs_6 (by decide) (fun z1 => ?_) (fun z1 => ?_)
  · replace h := h.1 z1
    refine g_iconst (v := 0) C dX11_keepAs_50 (by decide) ?_
    refine g_istore_n (lv' := [(2, .int 0), (0, .ref m0), (1, .ref (a 2))]) C dX11_keepAs_51 rfl (by decide) rfl ?_
    refine g_locals [1, 2, 0] rfl ?_
    obtain ⟨k8, h⟩ := h
    refine t_X11_keepAs_2_52 C hr  P  k8 0 r q h
  · replace h := h.2 z1
    refine g_iconst (v := 0) C dX11_keepAs_9 (by decide) ?_
    refine g_istore_n (lv' := [(2, .int 0), (0, .ref m0), (1, .ref (a 2))]) C dX11_keepAs_10 rfl (by decide) rfl ?_
    refine g_locals [1, 2, 0] rfl ?_
    obtain ⟨k18, h⟩ := h
    refine t_X11_keepAs_2_11 C hr _ P ?_ k18 0 r q h
    · intro r14 q15 h
      refine g_aload_n C dX11_keepAs_40 rfl 0 rfl ?_
      refine g_dup C dX11_keepAs_41 rfl ?_
      refine gr_get C iwx_X11 5 (hw kw_1814) (by decide) rfl rfl dX11_keepAs_42 ?_
      refine g_iconst (v := 1) C dX11_keepAs_45 (by decide) ?_
      refine g_isub C dX11_keepAs_46 ?_
      refine gr_put_5 C iwx_X11 (hw kw_1814) dX11_keepAs_47 ?_
      refine gr_nr (fun r16 er16 => ?_)
      replace h := h r16 er16
      refine g_iconst (v := 0) C dX11_keepAs_50 (by decide) ?_
      refine g_istore_n (lv' := [(2, .int 0), (0, .ref m0), (1, .ref (a 2))]) C dX11_keepAs_51 rfl (by decide) rfl ?_
      refine g_locals [1, 2, 0] rfl ?_
      obtain ⟨k17, h⟩ := h
      refine t_X11_keepAs_2_52 C hr  P  k17 0 r16 q15 h
theorem c_X11_keepAs_2 (l : Launch) (D : va_G) (T : Nat → ClassId) (m0 : Nat) (a : Nat → Nat)  (r : Nat → Int32) (q : Nat → Nat → Int32) (P : RST → Prop) (h : wp_X11_keepAs_2 P  r q) : RMv l yX11_keepAs (ws_X11_keepAs) rm_X11_keepAs D T m0 a [.ref m0, .ref (a 2)] r q P := gr_metv (by decide) rfl rfl (Nat.le_of_ble_eq_true rfl) (fun p e s m args below meth c A C hr => t_X11_keepAs_2 C hr P  r q h)
theorem rl_keep52_2 {P : RST → Prop} {r : Nat → Int32} {q : Nat → Nat → Int32} {c : Nat} (hc : c < 8) (hr : r 5 = nI c) (hP : ∀ (q1 : Nat → Nat → Int32), kQ q q1 [3] → (∀ i, i < 3334 * c → q1 3 i = q 3 i) → (∀ k, k < 3334 → q1 3 (3334 * c + k) = q 2 k) → P (va_up r 5 (nI (c + 1)), q1)) : ∀ (k x fuel : Nat) (q' : Nat → Nat → Int32), x + k = 3334 → k < fuel → kQ q q' [3] → (∀ i, i < 3334 * c → q' 3 i = q 3 i) → (∀ j, j < x → q' 3 (3334 * c + j) = q 2 j) → wp_X11_keepAs_2_52 P fuel (nI x) r q' := by
  intro k
  induction k with
  | zero =>
    intro x fuel q' hx hf hq h1 h2
    obtain ⟨f, rfl⟩ : ∃ f, fuel = f + 1 := ⟨fuel - 1, by omega⟩; rw [wp_X11_keepAs_2_52]; unfold wb_X11_keepAs_2_52; dsimp only
    simp (disch := omega) only [hr, li_2, li_3, li_4, li_5, li_6, li_7, li_8, li_9, li_10, li_12, li_14, li_20, li_26, li_30, li_31, li_36, li_38, li_47, li_48, li_50, li_57, li_58, li_80, li_98, li_99, li_100, li_102, li_104, li_105, li_108, li_109, li_110, li_114, li_115, li_119, li_122, li_137, li_146, li_147, li_148, li_149, li_150, li_200, li_255, li_256, li_274, li_510, li_512, li_640, li_999, li_1000, li_1024, li_3334, li_5000, li_9999, li_10000, li_23338, li_26672, li_30000, li_99999, li_150000, li_300000, pk_mul, nI_add, pk_sub, nI_clamp, nI_1, nI_p1, nI_a0, nI_0a, nI_m0, nI_m1, cl_0, cl_1, z01, z11, nI_leI, nI_ltI, nI_eq, nz_lt0, nz_le, nz_eq0, nz_pos, nz_le0, nz_eq1, nz_lt1, nz_ge1, nz_le1, nz_gt1, nz_vp, nz_vp0, nz_vp1, six_nI, vix_nI, bix_nI, pix_nI, fix_nI, gix_nI, rix_nI, zix_nI, pix_0, pix_1, bix_0, fix_0, fix_1, rix_1, true_and, and_true]
    refine ⟨fun _ r3 e3 => ?_, fun h => absurd (by omega) h⟩
    subst e3
    exact hP q' hq h1 (fun k hk => h2 k (by omega))
  | succ k ih =>
    intro x fuel q' hx hf hq h1 h2
    obtain ⟨f, rfl⟩ : ∃ f, fuel = f + 1 := ⟨fuel - 1, by omega⟩; rw [wp_X11_keepAs_2_52]; unfold wb_X11_keepAs_2_52; dsimp only
    simp (disch := omega) only [hr, li_2, li_3, li_4, li_5, li_6, li_7, li_8, li_9, li_10, li_12, li_14, li_20, li_26, li_30, li_31, li_36, li_38, li_47, li_48, li_50, li_57, li_58, li_80, li_98, li_99, li_100, li_102, li_104, li_105, li_108, li_109, li_110, li_114, li_115, li_119, li_122, li_137, li_146, li_147, li_148, li_149, li_150, li_200, li_255, li_256, li_274, li_510, li_512, li_640, li_999, li_1000, li_1024, li_3334, li_5000, li_9999, li_10000, li_23338, li_26672, li_30000, li_99999, li_150000, li_300000, pk_mul, nI_add, pk_sub, nI_clamp, nI_1, nI_p1, nI_a0, nI_0a, nI_m0, nI_m1, cl_0, cl_1, z01, z11, nI_leI, nI_ltI, nI_eq, nz_lt0, nz_le, nz_eq0, nz_pos, nz_le0, nz_eq1, nz_lt1, nz_ge1, nz_le1, nz_gt1, nz_vp, nz_vp0, nz_vp1, six_nI, vix_nI, bix_nI, pix_nI, fix_nI, gix_nI, rix_nI, zix_nI, pix_0, pix_1, bix_0, fix_0, fix_1, rix_1, true_and, and_true]
    refine ⟨fun h => absurd h (by omega), fun _ => ⟨by omega, by omega, fun q6 e6 v7 e7 => ?_⟩⟩
    subst e7
    have e0 : q' 2 = q 2 := hq 2 (by decide)
    refine ih (x + 1) f q6 (by omega) (by omega) (by rw [e6]; exact hq.up (by decide) _) (fun i hi => ?_) (fun j hj => ?_)
    · rw [e6, va_up_self, pk_un (by omega)]; exact h1 i hi
    · rw [e6, va_up_self]
      by_cases e : j = x
      · subst e; rw [pk_us, e0]
      · rw [pk_un (by omega)]; exact h2 j (by omega)
theorem rl_keep11_2 {K : (Nat → Int32) → (Nat → Nat → Int32) → Prop} {P : RST → Prop} {r : Nat → Int32} {q : Nat → Nat → Int32} (hP : ∀ (q1 : Nat → Nat → Int32), kQ q q1 [3] → (∀ i, i < 23338 → q1 3 i = q 3 (i + 3334)) → K r q1) : ∀ (k x fuel : Nat) (q' : Nat → Nat → Int32), x + k = 23338 → k < fuel → kQ q q' [3] → (∀ i, i < x → q' 3 i = q 3 (i + 3334)) → (∀ i, x ≤ i → q' 3 i = q 3 i) → wp_X11_keepAs_2_11 K P fuel (nI x) r q' := by
  intro k
  induction k with
  | zero =>
    intro x fuel q' hx hf hq h1 h2
    obtain ⟨f, rfl⟩ : ∃ f, fuel = f + 1 := ⟨fuel - 1, by omega⟩; rw [wp_X11_keepAs_2_11]; unfold wb_X11_keepAs_2_11; dsimp only
    simp (disch := omega) only [li_2, li_3, li_4, li_5, li_6, li_7, li_8, li_9, li_10, li_12, li_14, li_20, li_26, li_30, li_31, li_36, li_38, li_47, li_48, li_50, li_57, li_58, li_80, li_98, li_99, li_100, li_102, li_104, li_105, li_108, li_109, li_110, li_114, li_115, li_119, li_122, li_137, li_146, li_147, li_148, li_149, li_150, li_200, li_255, li_256, li_274, li_510, li_512, li_640, li_999, li_1000, li_1024, li_3334, li_5000, li_9999, li_10000, li_23338, li_26672, li_30000, li_99999, li_150000, li_300000, pk_mul, nI_add, pk_sub, nI_clamp, nI_1, nI_p1, nI_a0, nI_0a, nI_m0, nI_m1, cl_0, cl_1, z01, z11, nI_leI, nI_ltI, nI_eq, nz_lt0, nz_le, nz_eq0, nz_pos, nz_le0, nz_eq1, nz_lt1, nz_ge1, nz_le1, nz_gt1, nz_vp, nz_vp0, nz_vp1, six_nI, vix_nI, bix_nI, pix_nI, fix_nI, gix_nI, rix_nI, zix_nI, pix_0, pix_1, bix_0, fix_0, fix_1, rix_1, true_and, and_true]
    exact ⟨fun _ => hP q' hq (fun i hi => h1 i (by omega)), fun h => absurd (by omega) h⟩
  | succ k ih =>
    intro x fuel q' hx hf hq h1 h2
    obtain ⟨f, rfl⟩ : ∃ f, fuel = f + 1 := ⟨fuel - 1, by omega⟩; rw [wp_X11_keepAs_2_11]; unfold wb_X11_keepAs_2_11; dsimp only
    simp (disch := omega) only [li_2, li_3, li_4, li_5, li_6, li_7, li_8, li_9, li_10, li_12, li_14, li_20, li_26, li_30, li_31, li_36, li_38, li_47, li_48, li_50, li_57, li_58, li_80, li_98, li_99, li_100, li_102, li_104, li_105, li_108, li_109, li_110, li_114, li_115, li_119, li_122, li_137, li_146, li_147, li_148, li_149, li_150, li_200, li_255, li_256, li_274, li_510, li_512, li_640, li_999, li_1000, li_1024, li_3334, li_5000, li_9999, li_10000, li_23338, li_26672, li_30000, li_99999, li_150000, li_300000, pk_mul, nI_add, pk_sub, nI_clamp, nI_1, nI_p1, nI_a0, nI_0a, nI_m0, nI_m1, cl_0, cl_1, z01, z11, nI_leI, nI_ltI, nI_eq, nz_lt0, nz_le, nz_eq0, nz_pos, nz_le0, nz_eq1, nz_lt1, nz_ge1, nz_le1, nz_gt1, nz_vp, nz_vp0, nz_vp1, six_nI, vix_nI, bix_nI, pix_nI, fix_nI, gix_nI, rix_nI, zix_nI, pix_0, pix_1, bix_0, fix_0, fix_1, rix_1, true_and, and_true]
    refine ⟨fun h => absurd h (by omega), fun _ => ⟨by omega, by omega, fun q6 e6 v7 e7 => ?_⟩⟩
    subst e7
    refine ih (x + 1) f q6 (by omega) (by omega) (by rw [e6]; exact hq.up (by decide) _) (fun i hi => ?_) (fun j hj => ?_)
    · rw [e6, va_up_self]
      by_cases e : i = x
      · subst e; rw [pk_us]; exact h2 _ (by omega)
      · rw [pk_un (by omega)]; exact h1 i (by omega)
    · rw [e6, va_up_self, pk_un (by omega)]; exact h2 j (by omega)
theorem k_X11_keepAs_2 (l : Launch) (D : va_G) (T : Nat → ClassId) (m0 : Nat) (a : Nat → Nat)  (r : Nat → Int32) (q : Nat → Nat → Int32) (h : CW8 r) : RMv l yX11_keepAs (ws_X11_keepAs) rm_X11_keepAs D T m0 a [.ref m0, .ref (a 2)] r q (fun u => (kR r u.1 [5] ∧ kQ q u.2 [3] ∧ psh (q 3) (u.2 3) (q 2) (r 5) (u.1 5))) := c_X11_keepAs_2 l D T m0 a  r q _ <|
  (by
    obtain ⟨n, hn, e5⟩ := h
    unfold wp_X11_keepAs_2
    refine ⟨fun c => ?_, fun c => ?_⟩
    · have hn8 : n < 8 := by
        rcases Nat.lt_or_ge n 8 with z | z
        · exact z
        · exact absurd (by rw [e5, show n = 8 by omega]; rfl) c
      refine ⟨3335, rl_keep52_2 (c := n) hn8 e5 (fun q1 a1 a2 a3 => ⟨kR.rf.up (by decide) _, a1, n, hn, e5, ?_⟩) 3334 0 _ q (by omega) (by omega) kQ.rf (fun _ _ => rfl) (fun j hj => absurd hj (by omega))⟩
      rw [if_pos hn8]
      exact ⟨(by (try dsimp only); exact va_up_self _ _ _), fun j k hj hk => a2 _ (by omega), a3⟩
    · have hn8 : n = 8 := by rw [e5] at c; exact (nI_eq (by omega) (by decide)).mp (show nI n = nI 8 from c)
      subst hn8
      refine ⟨23339, rl_keep11_2 (fun q1 a1 a2 => ?_) 23338 0 _ q (by omega) (by omega) kQ.rf (fun j hj => absurd hj (by omega)) (fun _ _ => rfl)⟩
      intro r16 e16
      have e7 : r16 5 = nI 7 := by rw [e16, va_up_self, e5]; rfl
      have ej : q1 2 = q 2 := a1 2 (by decide)
      refine ⟨3335, rl_keep52_2 (c := 7) (by decide) e7 (fun q2 b1 b2 b3 => ⟨?_, (a1.tr b1 (fun _ h => h) (fun _ h => h)), 8, by decide, e5, ?_⟩) 3334 0 _ q1 (by omega) (by omega) kQ.rf (fun _ _ => rfl) (fun j hj => absurd hj (by omega))⟩
      · rw [e16]; exact (kR.rf.up (by decide) _).up (by decide) _
      · rw [if_neg (by decide)]
        refine ⟨(by (try dsimp only); exact va_up_self _ _ _), fun j k hj hk => ?_, fun k hk => by rw [← ej]; exact b3 k hk⟩
        rw [show ((va_up r16 5 (nI (7 + 1)), q2) : RST).2 = q2 from rfl, b2 _ (by omega), a2 _ (by omega)]
        congr 1; omega)

end S_RBS
