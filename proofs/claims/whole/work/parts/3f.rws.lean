section S_RWS
abbrev ws_X11_layMerged : List Cond := Cond.code yX11_layMerged cX11_layMerged 3 none :: W0
abbrev rm_X11_layMerged : Room := ({ frames := 7, cells := 0, slots := 0, locals := 161 } : Room)
def wb_X11_layMerged_12 (rec : Int32 → Int32 → (Nat → Int32) → (Nat → Nat → Int32) → Prop) (K58 : (Nat → Int32) → (Nat → Nat → Int32) → Prop) (P : RST → Prop) (x1 : Int32) (x2 : Int32) (r : Nat → Int32) (q : Nat → Nat → Int32) : Prop := vp_in 1 3334 ∧ (((q 0 (Int32.toNatClampNeg 1)) ≤ x2 → (K58 r q)) ∧ (¬ (q 0 (Int32.toNatClampNeg 1)) ≤ x2 → (((hasF x1 x2) = 0 → (∀ v9 : Int32, v9 = x2 + 1 → (rec x1 v9 r q))) ∧ (¬ (hasF x1 x2) = 0 → (vp_in (r 36) 10 ∧ (∀ q11 : Nat → Nat → Int32, q11 = va_up q 11 (upd (q 11) (Int32.toNatClampNeg (r 36)) (1 <<< (x2 &&& 31))) → (∀ r12 : Nat → Int32, r12 = va_up r 36 ((r 36) + 1) → (∀ v13 : Int32, v13 = x2 + 1 → (rec x1 v13 r12 q11)))))))))
def wp_X11_layMerged_12 (K58 : (Nat → Int32) → (Nat → Nat → Int32) → Prop) (P : RST → Prop) : Nat → Int32 → Int32 → (Nat → Int32) → (Nat → Nat → Int32) → Prop
  | 0 => fun _ _ _ _ => False
  | n + 1 => fun x1 x2 r q => wb_X11_layMerged_12 (wp_X11_layMerged_12 K58 P n) K58 P x1 x2 r q
set_option maxRecDepth 100000 in
set_option maxHeartbeats 4000000 in
theorem t_X11_layMerged_12 {p : Program} {l : Launch} {e : Env} {s : State} {m : MethodId} {args : Array Value} {below : List Frame} {meth : Method} {c : Code} {D : va_G} {A : Nat → Prop} {T : Nat → ClassId} {m0 : Nat} {a : Nat → Nat} (C : GC p s m args meth c cX11_layMerged "FreightRaterModel" (ws_X11_layMerged) 3 D A (zty T)) (hr : meth.sig.returnType = none) (K58 : (Nat → Int32) → (Nat → Nat → Int32) → Prop) (P : RST → Prop) (hK58 : ∀ (r : Nat → Int32) (q : Nat → Nat → Int32), K58 r q → GW p l e rm_X11_layMerged s m args below meth c D A 3 0 0 (MQ below (va_Qv P (RE D T m0 a A) A) args s 0 0 A) (RW m0 a T r q) 0 0 58 [(0, .ref m0)] []) : ∀ (n : Nat) (x1 : Int32) (x2 : Int32) (r : Nat → Int32) (q : Nat → Nat → Int32), wp_X11_layMerged_12 K58 P n x1 x2 r q → GW p l e rm_X11_layMerged s m args below meth c D A 3 0 0 (MQ below (va_Qv P (RE D T m0 a A) A) args s 0 0 A) (RW m0 a T r q) 0 0 12 [(0, .ref m0), (1, .int x1), (2, .int x2)] [] := by
  have hw : ∀ {w : Cond}, w ∈ W0 → w.before args s = true := fun h => C.2.2.2.2.1 _ (List.mem_cons_of_mem _ h)
  intro n
  induction n with
  | zero => intro x1 x2 r q h; exact h.elim
  | succ n ih =>
    intro x1 x2 r q h
    replace h : wb_X11_layMerged_12 (wp_X11_layMerged_12 K58 P n) K58 P x1 x2 r q := h
    unfold wb_X11_layMerged_12 at h
    refine g_iload_n C dX11_layMerged_12 rfl 2 rfl ?_
    refine g_aload_n C dX11_layMerged_13 rfl 0 rfl ?_
    refine gr_get C iwx_X11 0 (hw kw_1809) (by decide) rfl rfl dX11_layMerged_14 ?_
    refine g_iconst (v := 1) C dX11_layMerged_17 (by decide) ?_
    obtain ⟨g6, h⟩ := h
    refine gr_ald_0 C g6 dX11_layMerged_18 ?_
    refine g_icmp_ge (tgt := 58) C dX11_layMerged_19 (by decide) (fun z7 => ?_) (fun z7 => ?_)
    · replace h := h.1 z7
      refine g_locals [0] rfl ?_
      exact hK58 r q h
    · replace h := h.2 z7
      refine g_iload_n C dX11_layMerged_22 rfl 1 rfl ?_
      refine g_iload_n C dX11_layMerged_23 rfl 2 rfl ?_
      refine gr_callSf C [.int x1, .int x2] rfl (k_X11_has l D T m0 a x1 x2 r q) (w0_S 2 C.2.2.2.2.1 kw_2178 kw_2179 kw_9 kw_2180 rfl rfl (by decide +kernel) ⟨by decide, by decide⟩) rfl (Nat.le_of_ble_eq_true rfl) (Nat.zero_le _) (Nat.zero_le _) dX11_layMerged_24 ?_
      refine g_if_eq (tgt := 52) C dX11_layMerged_27 (by decide) (fun z8 => ?_) (fun z8 => ?_)
      · replace h := h.1 z8
        obtain ⟨v9, ev9⟩ : ∃ y : Int32, y = x2 + 1 := ⟨_, rfl⟩
        replace h := h v9 ev9
        refine g_iinc (v := v9) (lv' := [(2, .int v9), (0, .ref m0), (1, .int x1)]) C dX11_layMerged_52 (j := 2) rfl (by rw [ev9]; rfl) (by decide) rfl ?_
        refine g_goto (tgt := 12) C dX11_layMerged_55 (by decide) ?_
        refine g_locals [1, 2, 0] rfl ?_
        exact ih x1 v9 r q h
      · replace h := h.2 z8
        refine g_aload_n C dX11_layMerged_30 rfl 0 rfl ?_
        refine gr_get C iwx_X11 37 (hw kw_1846) (by decide) rfl rfl dX11_layMerged_31 ?_
        refine g_aload_n C dX11_layMerged_34 rfl 0 rfl ?_
        refine gr_get C iwx_X11 36 (hw kw_1845) (by decide) rfl rfl dX11_layMerged_35 ?_
        refine g_iconst (v := 1) C dX11_layMerged_38 (by decide) ?_
        refine g_iload_n C dX11_layMerged_39 rfl 2 rfl ?_
        refine g_ishl C dX11_layMerged_40 ?_
        obtain ⟨g10, h⟩ := h
        refine gr_ast_11 C g10 dX11_layMerged_41 ?_
        refine gr_nq (fun q11 eq11 => ?_)
        replace h := h q11 eq11
        refine g_aload_n C dX11_layMerged_42 rfl 0 rfl ?_
        refine g_dup C dX11_layMerged_43 rfl ?_
        refine gr_get C iwx_X11 36 (hw kw_1845) (by decide) rfl rfl dX11_layMerged_44 ?_
        refine g_iconst (v := 1) C dX11_layMerged_47 (by decide) ?_
        refine g_iadd C dX11_layMerged_48 ?_
        refine gr_put_36 C iwx_X11 (hw kw_1845) dX11_layMerged_49 ?_
        refine gr_nr (fun r12 er12 => ?_)
        replace h := h r12 er12
        obtain ⟨v13, ev13⟩ : ∃ y : Int32, y = x2 + 1 := ⟨_, rfl⟩
        replace h := h v13 ev13
        refine g_iinc (v := v13) (lv' := [(2, .int v13), (0, .ref m0), (1, .int x1)]) C dX11_layMerged_52 (j := 2) rfl (by rw [ev13]; rfl) (by decide) rfl ?_
        refine g_goto (tgt := 12) C dX11_layMerged_55 (by decide) ?_
        refine g_locals [1, 2, 0] rfl ?_
        exact ih x1 v13 r12 q11 h
def wb_X11_layMerged_58 (rec : (Nat → Int32) → (Nat → Nat → Int32) → Prop) (P : RST → Prop) (r : Nat → Int32) (q : Nat → Nat → Int32) : Prop := (grO r q) ∧ (∀ (v16 : Int32) (r17 : Nat → Int32) (q18 : Nat → Nat → Int32), (q18 = q ∧ v16 = (match (fpF (q 7) (alL (q 11) (iv (r 36)))).2 with | none => 0 | some _ => 1) ∧ kR r r17 [38, 39] ∧ ∀ a b, (fpF (q 7) (alL (q 11) (iv (r 36)))).2 = some (a, b) → a < iv (r 36) ∧ b < iv (r 36) ∧ r17 38 = nI a ∧ r17 39 = nI b) → ((v16 = 0 → (P (r17, q18))) ∧ (¬ v16 = 0 → (vp_in (r17 38) 10 ∧ (vp_in (r17 39) 10 ∧ (vp_in (r17 38) 10 ∧ (∀ q24 : Nat → Nat → Int32, q24 = va_up q18 11 (upd (q18 11) (Int32.toNatClampNeg (r17 38)) ((q18 11 (Int32.toNatClampNeg (r17 38))) ||| (q18 11 (Int32.toNatClampNeg (r17 39))))) → (∀ r25 : Nat → Int32, r25 = va_up r17 36 ((r17 36) - 1) → (vp_in (r25 36) 10 ∧ (vp_in (r25 39) 10 ∧ (∀ q28 : Nat → Nat → Int32, q28 = va_up q24 11 (upd (q24 11) (Int32.toNatClampNeg (r25 39)) (q24 11 (Int32.toNatClampNeg (r25 36)))) → (rec r25 q28))))))))))))
def wp_X11_layMerged_58 (P : RST → Prop) : Nat → (Nat → Int32) → (Nat → Nat → Int32) → Prop
  | 0 => fun _ _ => False
  | n + 1 => fun r q => wb_X11_layMerged_58 (wp_X11_layMerged_58  P n)  P r q
set_option maxRecDepth 100000 in
set_option maxHeartbeats 4000000 in
theorem t_X11_layMerged_58 {p : Program} {l : Launch} {e : Env} {s : State} {m : MethodId} {args : Array Value} {below : List Frame} {meth : Method} {c : Code} {D : va_G} {A : Nat → Prop} {T : Nat → ClassId} {m0 : Nat} {a : Nat → Nat} (C : GC p s m args meth c cX11_layMerged "FreightRaterModel" (ws_X11_layMerged) 3 D A (zty T)) (hr : meth.sig.returnType = none) (P : RST → Prop) : ∀ (n : Nat) (r : Nat → Int32) (q : Nat → Nat → Int32), wp_X11_layMerged_58  P n r q → GW p l e rm_X11_layMerged s m args below meth c D A 3 0 0 (MQ below (va_Qv P (RE D T m0 a A) A) args s 0 0 A) (RW m0 a T r q) 0 0 58 [(0, .ref m0)] [] := by
  have hw : ∀ {w : Cond}, w ∈ W0 → w.before args s = true := fun h => C.2.2.2.2.1 _ (List.mem_cons_of_mem _ h)
  intro n
  induction n with
  | zero => intro r q h; exact h.elim
  | succ n ih =>
    intro r q h
    replace h : wb_X11_layMerged_58 (wp_X11_layMerged_58  P n)  P r q := h
    unfold wb_X11_layMerged_58 at h
    refine g_aload_n C dX11_layMerged_58 rfl 0 rfl ?_
    obtain ⟨g19, h⟩ := h
    refine gr_calliV C [] rfl (k_X11_findsPair l D T m0 a  r q g19) (w0_V 0 C.2.2.2.2.1 kw_2283 kw_2285 ks_102 kw_9 kw_2286 rfl rfl (by decide +kernel) ⟨by decide, by decide⟩) rfl (Nat.le_of_ble_eq_true rfl) (Nat.zero_le _) (Nat.zero_le _) dX11_layMerged_59 (fun v16 r17 q18 hp => ?_)
    replace h := h v16 r17 q18 hp
    refine g_if_eq (tgt := 117) C dX11_layMerged_62 (by decide) (fun z20 => ?_) (fun z20 => ?_)
    · replace h := h.1 z20
      exact gr_vret C hr dX11_layMerged_117 h
    · replace h := h.2 z20
      refine g_aload_n C dX11_layMerged_65 rfl 0 rfl ?_
      refine gr_get C iwx_X11 37 (hw kw_1846) (by decide) rfl rfl dX11_layMerged_66 ?_
      refine g_aload_n C dX11_layMerged_69 rfl 0 rfl ?_
      refine gr_get C iwx_X11 38 (hw kw_1847) (by decide) rfl rfl dX11_layMerged_70 ?_
      refine g_dup2 C dX11_layMerged_73 rfl rfl ?_
      obtain ⟨g21, h⟩ := h
      refine gr_ald_11 C g21 dX11_layMerged_74 ?_
      refine g_aload_n C dX11_layMerged_75 rfl 0 rfl ?_
      refine gr_get C iwx_X11 37 (hw kw_1846) (by decide) rfl rfl dX11_layMerged_76 ?_
      refine g_aload_n C dX11_layMerged_79 rfl 0 rfl ?_
      refine gr_get C iwx_X11 39 (hw kw_1848) (by decide) rfl rfl dX11_layMerged_80 ?_
      obtain ⟨g22, h⟩ := h
      refine gr_ald_11 C g22 dX11_layMerged_83 ?_
      refine g_ior C dX11_layMerged_84 ?_
      obtain ⟨g23, h⟩ := h
      refine gr_ast_11 C g23 dX11_layMerged_85 ?_
      refine gr_nq (fun q24 eq24 => ?_)
      replace h := h q24 eq24
      refine g_aload_n C dX11_layMerged_86 rfl 0 rfl ?_
      refine g_dup C dX11_layMerged_87 rfl ?_
      refine gr_get C iwx_X11 36 (hw kw_1845) (by decide) rfl rfl dX11_layMerged_88 ?_
      refine g_iconst (v := 1) C dX11_layMerged_91 (by decide) ?_
      refine g_isub C dX11_layMerged_92 ?_
      refine gr_put_36 C iwx_X11 (hw kw_1845) dX11_layMerged_93 ?_
      refine gr_nr (fun r25 er25 => ?_)
      replace h := h r25 er25
      refine g_aload_n C dX11_layMerged_96 rfl 0 rfl ?_
      refine gr_get C iwx_X11 37 (hw kw_1846) (by decide) rfl rfl dX11_layMerged_97 ?_
      refine g_aload_n C dX11_layMerged_100 rfl 0 rfl ?_
      refine gr_get C iwx_X11 39 (hw kw_1848) (by decide) rfl rfl dX11_layMerged_101 ?_
      refine g_aload_n C dX11_layMerged_104 rfl 0 rfl ?_
      refine gr_get C iwx_X11 37 (hw kw_1846) (by decide) rfl rfl dX11_layMerged_105 ?_
      refine g_aload_n C dX11_layMerged_108 rfl 0 rfl ?_
      refine gr_get C iwx_X11 36 (hw kw_1845) (by decide) rfl rfl dX11_layMerged_109 ?_
      obtain ⟨g26, h⟩ := h
      refine gr_ald_11 C g26 dX11_layMerged_112 ?_
      obtain ⟨g27, h⟩ := h
      refine gr_ast_11 C g27 dX11_layMerged_113 ?_
      refine gr_nq (fun q28 eq28 => ?_)
      replace h := h q28 eq28
      refine g_goto (tgt := 58) C dX11_layMerged_114 (by decide) ?_
      refine g_locals [0] rfl ?_
      exact ih r25 q28 h
def wp_X11_layMerged (P : RST → Prop) (p0 : Int32) (r : Nat → Int32) (q : Nat → Nat → Int32) : Prop := (WF (q 0) ∧ gok (q 0) p0) ∧ (∀ (r2 : Nat → Int32) (q3 : Nat → Nat → Int32), (kQ q q3 [7] ∧ kR r r2 [7, 17, 18, 19, 20, 21, 22, 23, 24, 25, 26, 27, 28] ∧ ∀ p, 0 < p → sub p (iv p0) → q3 7 p = ttF (q 0) p) → (∀ r5 : Nat → Int32, r5 = va_up r2 36 0 → (∃ k30 : Nat, wp_X11_layMerged_12 (fun (r14 : Nat → Int32) (q15 : Nat → Nat → Int32) => ∃ k29 : Nat, wp_X11_layMerged_58  P k29 r14 q15) P k30 p0 0 r5 q3)))
set_option maxRecDepth 100000 in
set_option maxHeartbeats 4000000 in
theorem t_X11_layMerged {p : Program} {l : Launch} {e : Env} {s : State} {m : MethodId} {args : Array Value} {below : List Frame} {meth : Method} {c : Code} {D : va_G} {A : Nat → Prop} {T : Nat → ClassId} {m0 : Nat} {a : Nat → Nat} (C : GC p s m args meth c cX11_layMerged "FreightRaterModel" (ws_X11_layMerged) 3 D A (zty T)) (hr : meth.sig.returnType = none) (P : RST → Prop) : ∀ (p0 : Int32) (r : Nat → Int32) (q : Nat → Nat → Int32), wp_X11_layMerged P p0 r q → GW p l e rm_X11_layMerged s m args below meth c D A 3 0 0 (MQ below (va_Qv P (RE D T m0 a A) A) args s 0 0 A) (RW m0 a T r q) 0 0 0 [(0, .ref m0), (1, .int p0)] [] := by
  have hw : ∀ {w : Cond}, w ∈ W0 → w.before args s = true := fun h => C.2.2.2.2.1 _ (List.mem_cons_of_mem _ h)
  intro p0 r q h
  unfold wp_X11_layMerged at h
  refine g_aload_n C dX11_layMerged_0 rfl 0 rfl ?_
  refine g_iload_n C dX11_layMerged_1 rfl 1 rfl ?_
  obtain ⟨g4, h⟩ := h
  refine gr_callvV C [.int p0] rfl (k_X11_layTotals l D T m0 a p0 r q g4) (w0_V 1 C.2.2.2.2.1 kw_2259 kw_2261 ks_99 kw_9 kw_2262 rfl rfl (by decide +kernel) ⟨by decide, by decide⟩) rfl (Nat.le_of_ble_eq_true rfl) (Nat.zero_le _) (Nat.zero_le _) dX11_layMerged_2 (fun r2 q3 hp => ?_)
  replace h := h r2 q3 hp
  refine g_aload_n C dX11_layMerged_5 rfl 0 rfl ?_
  refine g_iconst (v := 0) C dX11_layMerged_6 (by decide) ?_
  refine gr_put_36 C iwx_X11 (hw kw_1845) dX11_layMerged_7 ?_
  refine gr_nr (fun r5 er5 => ?_)
  replace h := h r5 er5
  refine g_iconst (v := 0) C dX11_layMerged_10 (by decide) ?_
  refine g_istore_n (lv' := [(2, .int 0), (0, .ref m0), (1, .int p0)]) C dX11_layMerged_11 rfl (by decide) rfl ?_
  refine g_locals [1, 2, 0] rfl ?_
  obtain ⟨k30, h⟩ := h
  refine t_X11_layMerged_12 C hr _ P ?_ k30 p0 0 r5 q3 h
  · intro r14 q15 h
    refine g_locals [0] rfl ?_
    obtain ⟨k29, h⟩ := h
    refine t_X11_layMerged_58 C hr  P  k29 r14 q15 h
theorem c_X11_layMerged (l : Launch) (D : va_G) (T : Nat → ClassId) (m0 : Nat) (a : Nat → Nat) (p0 : Int32) (r : Nat → Int32) (q : Nat → Nat → Int32) (P : RST → Prop) (h : wp_X11_layMerged P p0 r q) : RMv l yX11_layMerged (ws_X11_layMerged) rm_X11_layMerged D T m0 a [.ref m0, .int p0] r q P := gr_metv (by decide) rfl rfl (Nat.le_of_ble_eq_true rfl) (fun p e s m args below meth c A C hr => t_X11_layMerged C hr P p0 r q h)
theorem gl_set {G : List Nat} {a i x : Nat} (ha : a < G.length) : gl (G.set a x) i = if i = a then x else gl G i := by
  unfold gl
  rw [List.getElem?_set]
  by_cases e : a = i
  · subst e; rw [if_pos rfl, if_pos ha, if_pos rfl]; rfl
  · rw [if_neg e, if_neg (fun h => e h.symm)]
theorem gl_dl {G : List Nat} {i : Nat} (h : i < G.length - 1) : gl G.dropLast i = gl G i := by
  unfold gl
  rw [List.getElem?_dropLast, if_pos h]
theorem mgS_len {G : List Nat} {a b : Nat} : (mgS G a b).length = G.length - 1 := by
  unfold mgS
  rw [List.length_dropLast, List.length_set, List.length_set]
theorem mgS_gl {G : List Nat} {a b i : Nat} (ha : a < G.length) (hb : b < G.length) (hi : i < G.length - 1) : gl (mgS G a b) i = if i = b then (if G.length - 1 = a then gl G a ||| gl G b else gl G (G.length - 1)) else if i = a then gl G a ||| gl G b else gl G i := by
  unfold mgS
  rw [gl_dl (by rw [List.length_set, List.length_set]; exact hi), gl_set (by rw [List.length_set]; exact hb), gl_set ha, gl_set ha]
theorem gl_ext {G H : List Nat} (hl : G.length = H.length) (h : ∀ i, i < G.length → gl G i = gl H i) : G = H := by
  apply List.ext_getElem? 
  intro i
  rcases Nat.lt_or_ge i G.length with q9 | q9
  · have := h i q9
    unfold gl at this
    rw [List.getElem?_eq_getElem q9, List.getElem?_eq_getElem (by omega)] at this ⊢
    exact congrArg some this
  · rw [List.getElem?_eq_none q9, List.getElem?_eq_none (by omega)]
/-- the pair that is found is a pair -/
theorem fpS_ok {T : Nat → Int32} {G : List Nat} {a b : Nat} {s : MS} (ha : a < G.length) (hb : b < G.length) (h : ∀ x y, s.2 = some (x, y) → x < G.length ∧ y < G.length ∧ gl G x < gl G y) : ∀ x y, (fpS T G a b s).2 = some (x, y) → x < G.length ∧ y < G.length ∧ gl G x < gl G y := by
  intro x y
  unfold fpS
  split
  · rename_i c
    split
    · intro e
      have e9 : (a, b) = (x, y) := Option.some.inj e
      have e1 : a = x := congrArg Prod.fst e9
      have e2 : b = y := congrArg Prod.snd e9
      subst e1 e2
      exact ⟨ha, hb, c.1⟩
    · exact h x y
  · exact h x y
theorem fpB_ok {T : Nat → Int32} {G : List Nat} {a : Nat} (ha : a < G.length) : ∀ (k b : Nat) (s : MS), b + k = G.length → (∀ x y, s.2 = some (x, y) → x < G.length ∧ y < G.length ∧ gl G x < gl G y) → ∀ x y, (fpB T G a k b s).2 = some (x, y) → x < G.length ∧ y < G.length ∧ gl G x < gl G y := by
  intro k
  induction k with
  | zero => intro b s _ h; exact h
  | succ k ih => intro b s hb h; exact ih (b + 1) _ (by omega) (fpS_ok ha (by omega) h)
theorem fpA_ok {T : Nat → Int32} {G : List Nat} : ∀ (k a : Nat) (s : MS), a + k = G.length → (∀ x y, s.2 = some (x, y) → x < G.length ∧ y < G.length ∧ gl G x < gl G y) → ∀ x y, (fpA T G k a s).2 = some (x, y) → x < G.length ∧ y < G.length ∧ gl G x < gl G y := by
  intro k
  induction k with
  | zero => intro a s _ h; exact h
  | succ k ih => intro a s ha h; exact ih (a + 1) _ (by omega) (fpB_ok (by omega) _ 0 _ (by omega) h)
theorem fpF_ok {T : Nat → Int32} {G : List Nat} {a b : Nat} (h : (fpF T G).2 = some (a, b)) : a < G.length ∧ b < G.length ∧ gl G a < gl G b := fpA_ok G.length 0 (0, none) (by omega) (fun x y z9 => by cases z9) a b h
/-- only the totals of the groups and of their pairs count -/
def agT (T T' : Nat → Int32) (G : List Nat) : Prop := (∀ i, i < G.length → T (gl G i) = T' (gl G i)) ∧ ∀ i j, i < G.length → j < G.length → T (gl G i ||| gl G j) = T' (gl G i ||| gl G j)
theorem fpS_cg {T T' : Nat → Int32} {G : List Nat} (h : agT T T' G) {a b : Nat} (ha : a < G.length) (hb : b < G.length) (s : MS) : fpS T G a b s = fpS T' G a b s := by
  have e : gaF T G a b = gaF T' G a b := by unfold gaF; rw [h.1 a ha, h.1 b hb, h.2 a b ha hb]
  unfold fpS sonB
  rw [e, h.2 a b ha hb]
theorem fpB_cg {T T' : Nat → Int32} {G : List Nat} (h : agT T T' G) {a : Nat} (ha : a < G.length) : ∀ (k b : Nat) (s : MS), b + k = G.length → fpB T G a k b s = fpB T' G a k b s := by
  intro k
  induction k with
  | zero => intro b s _; rfl
  | succ k ih => intro b s hb; rw [fpB, fpB, fpS_cg h ha (by omega), ih (b + 1) _ (by omega)]
theorem fpA_cg {T T' : Nat → Int32} {G : List Nat} (h : agT T T' G) : ∀ (k a : Nat) (s : MS), a + k = G.length → fpA T G k a s = fpA T' G k a s := by
  intro k
  induction k with
  | zero => intro a s _; rfl
  | succ k ih => intro a s ha; rw [fpA, fpA, fpB_cg h (by omega) _ 0 _ (by omega), ih (a + 1) _ (by omega)]
theorem fpF_cg {T T' : Nat → Int32} {G : List Nat} (h : agT T T' G) : fpF T G = fpF T' G := fpA_cg h _ 0 _ (by omega)
theorem sub_or {a b n : Nat} (h : sub a n) (h2 : sub b n) : sub (a ||| b) n := sub_tb.mpr fun i hi => by
  rw [Nat.testBit_or] at hi
  cases ha : a.testBit i with
  | true => exact sub_tb.mp h i ha
  | false => rw [ha, Bool.false_or] at hi; exact sub_tb.mp h2 i hi
/-- groups within a set -/
def sbL (G : List Nat) (n : Nat) : Prop := ∀ i, i < G.length → 0 < gl G i ∧ sub (gl G i) n
theorem sbL.mg {G : List Nat} {n a b : Nat} (h : sbL G n) (ha : a < G.length) (hb : b < G.length) : sbL (mgS G a b) n := by
  intro i hi
  rw [mgS_len] at hi
  have hu : 0 < gl G a ||| gl G b ∧ sub (gl G a ||| gl G b) n := ⟨or_pos (h a ha).1, sub_or (h a ha).2 (h b hb).2⟩
  rw [mgS_gl ha hb hi]
  split
  · split
    · exact hu
    · exact h _ (by omega)
  split
  · exact hu
  · exact h i (by omega)
theorem sbL.ag {T T' : Nat → Int32} {G : List Nat} {n : Nat} (h : sbL G n) (hT : ∀ p, 0 < p → sub p n → T p = T' p) : agT T T' G := ⟨fun i hi => hT _ (h i hi).1 (h i hi).2, fun i j hi hj => hT _ (or_pos (h i hi).1) (sub_or (h i hi).2 (h j hj).2)⟩
theorem si_gl {n : Nat} : ∀ k s, ∀ g, g ∈ siL n k s → 0 < g ∧ sub g n := by
  intro k
  induction k with
  | zero => intro s g hg; simp [siL] at hg
  | succ k ih =>
    intro s g hg
    rw [siL] at hg
    split at hg
    · rename_i c
      rcases List.mem_cons.mp hg with e | e
      · subst e
        exact ⟨Nat.two_pow_pos s, sub_tb.mpr fun i hi => by
          rw [Nat.testBit_two_pow] at hi
          rw [← of_decide_eq_true hi]
          exact c⟩
      · exact ih (s + 1) g e
    · exact ih (s + 1) g hg
theorem si_len {n : Nat} : ∀ k s, (siL n k s).length ≤ k := by
  intro k
  induction k with
  | zero => intro s; exact Nat.le_refl _
  | succ k ih =>
    intro s
    rw [siL]
    split
    · rw [List.length_cons]; exact Nat.succ_le_succ (ih (s + 1))
    · exact Nat.le_succ_of_le (ih (s + 1))
theorem gl_mem {G : List Nat} {i : Nat} (h : i < G.length) : gl G i ∈ G := by
  unfold gl
  rw [List.getElem?_eq_getElem h]
  exact List.getElem_mem h
theorem rl_m12 {P : RST → Prop} {K : (Nat → Int32) → (Nat → Nat → Int32) → Prop} {n ns : Nat} (hn : n < 1024) (hns : ns ≤ 10) : ∀ (k s fuel : Nat) (L : List Nat) (r : Nat → Int32) (q : Nat → Nat → Int32), s + k = ns → k < fuel → q 0 1 = nI ns → L.length ≤ s → r 36 = nI L.length → (∀ i, i < L.length → q 11 i = nI (gl L i)) → (∀ r1 q1, kR r r1 [36] → kQ q q1 [11] → r1 36 = nI (L ++ siL n k s).length → (∀ i, i < (L ++ siL n k s).length → q1 11 i = nI (gl (L ++ siL n k s) i)) → K r1 q1) → wp_X11_layMerged_12 K P fuel (nI n) (nI s) r q := by
  intro k
  induction k with
  | zero =>
    intro s fuel L r q hs hf hm hL h36 hq hK
    obtain ⟨f, rfl⟩ : ∃ f, fuel = f + 1 := ⟨fuel - 1, by omega⟩; rw [wp_X11_layMerged_12]; unfold wb_X11_layMerged_12; dsimp only
    rw [cl_1, hm, nI_leI (by omega) (by omega), nz_vp1 (by decide)]
    rw [siL, List.append_nil] at hK
    exact ⟨by decide, fun _ => hK r q kR.rf kQ.rf h36 hq, fun z9 => absurd (by omega) z9⟩
  | succ k ih =>
    intro s fuel L r q hs hf hm hL h36 hq hK
    have hh := has_0 (n := n) (s := s) hn (by omega)
    obtain ⟨f, rfl⟩ : ∃ f, fuel = f + 1 := ⟨fuel - 1, by omega⟩; rw [wp_X11_layMerged_12]; unfold wb_X11_layMerged_12; dsimp only
    rw [cl_1, hm, nI_leI (by omega) (by omega), nz_vp1 (by decide), hh, h36, nz_vp (by omega) (by decide), nI_clamp (n := L.length) (by omega), sh1 (by omega), nI_1, nI_1]
    rw [siL] at hK
    refine ⟨by decide, fun z9 => absurd z9 (by omega), fun _ => ⟨fun c v9 e9 => ?_, fun c => ⟨by omega, fun q11 e11 r12 e12 v13 e13 => ?_⟩⟩⟩
    · subst e9
      rw [if_neg c] at hK
      exact ih (s + 1) f L r q (by omega) (by omega) hm (by omega) h36 hq hK
    · subst e13
      have ht : n.testBit s = true := by simpa using c
      rw [if_pos ht] at hK
      have k11 : kQ q q11 [11] := by rw [e11]; exact kQ.rf.up (by decide) _
      have k12 : kR r r12 [36] := by rw [e12]; exact kR.rf.up (by decide) _
      refine ih (s + 1) f (L ++ [2 ^ s]) r12 q11 (by omega) (by omega) (by rw [k11 0 (by decide)]; exact hm) (by rw [List.length_append, List.length_singleton]; omega) (by rw [e12, va_up_self, List.length_append, List.length_singleton]) (fun i hi => ?_) (fun r1 q1 g1 g2 g3 g4 => hK r1 q1 (k12.tr g1 (fun _ h => h) (fun _ h => h)) (k11.tr g2 (fun _ h => h) (fun _ h => h)) ?_ ?_)
      · rw [List.length_append, List.length_singleton] at hi
        rw [e11, va_up_self]
        by_cases e : i = L.length
        · subst e
          rw [pk_us]
          unfold gl
          rw [List.getElem?_append_right (Nat.le_refl _), Nat.sub_self]
          rfl
        · rw [pk_un e, hq i (by omega)]
          unfold gl
          rw [List.getElem?_append_left (by omega)]
      · rw [List.append_assoc, List.singleton_append] at g3
        exact g3
      · rw [List.append_assoc, List.singleton_append] at g4
        exact g4
theorem rl_m58 {P : RST → Prop} {T : Nat → Int32} {n : Nat} (hn : n < 1024) : ∀ (k fuel : Nat) (G : List Nat) (r : Nat → Int32) (q : Nat → Nat → Int32), G.length ≤ k → k ≤ 10 → k < fuel → sbL G n → (∀ p, 0 < p → sub p n → q 7 p = T p) → r 36 = nI G.length → (∀ i, i < G.length → q 11 i = nI (gl G i)) → (∀ r1 q1, kR r r1 [36, 38, 39] → kQ q q1 [11] → (mgL T k G).length ≤ 10 → sbL (mgL T k G) n → r1 36 = nI (mgL T k G).length → (∀ i, i < (mgL T k G).length → q1 11 i = nI (gl (mgL T k G) i)) → P (r1, q1)) → wp_X11_layMerged_58 P fuel r q := by
  intro k
  induction k with
  | zero =>
    intro fuel G r q hl hk hf hs hT h36 hq hP
    have hG : G = [] := List.eq_nil_of_length_eq_zero (by omega)
    subst hG
    obtain ⟨f, rfl⟩ : ∃ f, fuel = f + 1 := ⟨fuel - 1, by omega⟩; rw [wp_X11_layMerged_58]; unfold wb_X11_layMerged_58; dsimp only
    refine ⟨⟨0, by decide, h36, fun i hi => absurd hi (Nat.not_lt_zero i)⟩, fun v16 r17 q18 hh => ?_⟩
    obtain ⟨a1, a2, a3, a4⟩ := hh
    subst a1
    have e0 : alL (q18 11) (iv (r 36)) = [] := by rw [h36]; rfl
    have hv : v16 = 0 := by rw [a2, e0]; rfl
    refine ⟨fun _ => ?_, fun z9 => absurd hv z9⟩
    refine hP r17 q18 (a3.mn (by decide)) kQ.rf (Nat.zero_le _) hs ?_ (fun i hi => absurd hi (Nat.not_lt_zero i))
    rw [a3 36 (by decide)]; exact h36
  | succ k ih =>
    intro fuel G r q hl hk hf hs hT h36 hq hP
    have hlt : ∀ i, i < G.length → gl G i < 1024 := fun i hi => Nat.lt_of_le_of_lt (sub_le (hs i hi).2) hn
    have i36 : iv (r 36) = G.length := by rw [h36]; exact nI_clamp (by omega)
    have hal : alL (q 11) G.length = G := gl_ext alL_len (fun i hi => by
      rw [alL_len] at hi
      rw [alL_gl hi, hq i hi]
      exact nI_clamp (by have := hlt i hi; omega))
    obtain ⟨f, rfl⟩ : ∃ f, fuel = f + 1 := ⟨fuel - 1, by omega⟩; rw [wp_X11_layMerged_58]; unfold wb_X11_layMerged_58; dsimp only
    refine ⟨⟨G.length, by omega, h36, fun i hi => ⟨gl G i, (hs i hi).1, hlt i hi, hq i hi⟩⟩, fun v16 r17 q18 hh => ?_⟩
    obtain ⟨a1, a2, a3, a4⟩ := hh
    subst a1
    rw [i36, hal, fpF_cg (hs.ag hT)] at a2 a4
    have e36 : r17 36 = nI G.length := by rw [a3 36 (by decide)]; exact h36
    rw [mgL] at hP
    cases hF : (fpF T G).2 with
    | none =>
      rw [hF] at a2 hP
      refine ⟨fun _ => hP r17 q18 (a3.mn (by decide)) kQ.rf (show G.length ≤ 10 by omega) hs e36 hq, fun z9 => absurd a2 z9⟩
    | some ab =>
      obtain ⟨a, b⟩ := ab
      rw [hF] at a2 hP
      obtain ⟨b1, b2, b3, b4⟩ := a4 a b hF
      obtain ⟨_, _, c3⟩ := fpF_ok hF
      refine ⟨fun z9 => absurd (show (1 : Int32) = 0 from a2.symm.trans z9) (by decide), fun _ => ?_⟩
      rw [b3, b4, nz_vp (a := a) (by omega) (by decide), nz_vp (a := b) (by omega) (by decide), nI_clamp (n := a) (by omega), nI_clamp (n := b) (by omega), e36]
      refine ⟨by omega, by omega, by omega, fun q23 e23 r24 e24 => ?_⟩
      have f36 : r24 36 = nI (G.length - 1) := by rw [e24, va_up_self, nI_p1 (by omega)]
      have f39 : r24 39 = nI b := by rw [e24, va_up_ne _ _ (by decide)]; exact b4
      rw [f36, f39, nz_vp (a := G.length - 1) (by omega) (by decide), nz_vp (a := b) (by omega) (by decide), nI_clamp (n := G.length - 1) (by omega), nI_clamp (n := b) (by omega)]
      refine ⟨by omega, by omega, fun q27 e27 => ?_⟩
      have k27 : kQ q18 q27 [11] := by rw [e27, e23]; exact (kQ.rf.up (by decide) _).up (by decide) _
      have k24 : kR r r24 [36, 38, 39] := by rw [e24]; exact (a3.mn (by decide)).up (by decide) _
      rw [hq a b1, hq b b2, nI_or] at e23
      have ml := mgS_len (G := G) (a := a) (b := b)
      refine ih f (mgS G a b) r24 q27 (by omega) (by omega) (by omega) (hs.mg b1 b2) (fun p hp hps => by rw [k27 7 (by decide)]; exact hT p hp hps) (by rw [f36, ml]) (fun i hi => ?_) (fun r1 q1 g1 g2 g3 g4 g5 g6 => hP r1 q1 (k24.tr g1 (fun _ h => h) (fun _ h => h)) (k27.tr g2 (fun _ h => h) (fun _ h => h)) g3 g4 g5 g6)
      rw [ml] at hi
      rw [mgS_gl b1 b2 hi, e27, va_up_self, e23, va_up_self]
      by_cases e : i = b
      · subst e
        rw [pk_us, if_pos rfl]
        by_cases e2 : G.length - 1 = a
        · rw [if_pos e2, e2, pk_us]
        · rw [if_neg e2, pk_un e2, hq _ (by omega)]
      · rw [pk_un e, if_neg e]
        by_cases e2 : i = a
        · subst e2; rw [pk_us, if_pos rfl]
        · rw [pk_un e2, if_neg e2, hq i (by omega)]
theorem k_X11_layMerged (l : Launch) (D : va_G) (T : Nat → ClassId) (m0 : Nat) (a : Nat → Nat) (p0 : Int32) (r : Nat → Int32) (q : Nat → Nat → Int32) (h : WF (q 0) ∧ gok (q 0) p0) : RMv l yX11_layMerged (ws_X11_layMerged) rm_X11_layMerged D T m0 a [.ref m0, .int p0] r q (fun u => (lmP r q (iv p0) u.1 u.2)) := c_X11_layMerged l D T m0 a p0 r q _ <|
  (by
    obtain ⟨hw, hg⟩ := h
    obtain ⟨n, hn, h0, en, ien⟩ := hg.n
    obtain ⟨ns, hns, ens⟩ := hw.2.1
    have ins : iv (q 0 1) = ns := by rw [ens]; exact nI_clamp (by omega)
    subst en
    rw [ien]
    unfold wp_X11_layMerged
    refine ⟨⟨hw, hg⟩, fun r2 q3 hh r5 e5 => ?_⟩
    obtain ⟨a1, a2, a3⟩ := hh
    rw [ien] at a3
    have q0e : q3 0 = q 0 := a1 0 (by decide)
    have k5 : kR r r5 [7, 17, 18, 19, 20, 21, 22, 23, 24, 25, 26, 27, 28, 36, 38, 39] := by rw [e5]; exact (a2.mn (by decide)).up (by decide) _
    refine ⟨20, rl_m12 (n := n) (ns := ns) hn hns ns 0 20 [] r5 q3 (by omega) (by omega) (by rw [q0e]; exact ens) (Nat.le_refl _) (by rw [e5, va_up_self]; rfl) (fun i hi => absurd hi (Nat.not_lt_zero i)) (fun r1 q1 g1 g2 g3 g4 => ?_)⟩
    rw [List.nil_append] at g3 g4
    have hl := si_len (n := n) ns 0
    refine ⟨20, rl_m58 (T := ttF (q 0)) (n := n) hn 10 20 (siL n ns 0) r1 q1 (by omega) (by omega) (by omega) (fun i hi => si_gl ns 0 _ (gl_mem hi)) (fun p hp hps => by rw [g2 7 (by decide)]; exact a3 p hp hps) g3 g4 (fun r3 q4 b1 b2 b3 b4 b5 b6 => ?_)⟩
    have eM : mgL (ttF (q 0)) 10 (siL n ns 0) = meF (q 0) n := by unfold meF; rw [ins]
    rw [eM] at b3 b4 b5 b6
    refine ⟨(k5.tr g1 (fun _ h => h) (by decide)).tr b1 (fun _ h => h) (by decide), (a1.tr g2 (L := [7, 11]) (by decide) (by decide)).tr b2 (fun _ h => h) (by decide), fun p hp hps => ?_, b3, b5, b6, b4⟩
    dsimp only
    rw [b2 7 (by decide), g2 7 (by decide)]
    exact a3 p hp hps)
abbrev ws_X11_merged : List Cond := Cond.code yX11_merged cX11_merged 6 (some .int) :: W0
abbrev rm_X11_merged : Room := ({ frames := 8, cells := 0, slots := 0, locals := 183 } : Room)
def wb_X11_merged_74 (rec : Int32 → Int32 → Int32 → Int32 → Int32 → (Nat → Int32) → (Nat → Nat → Int32) → Prop) (P : Int32 → RST → Prop) (x1 : Int32) (x2 : Int32) (x3 : Int32) (x4 : Int32) (x5 : Int32) (r : Nat → Int32) (q : Nat → Nat → Int32) : Prop := ((r 36) ≤ x5 → ((¬ x2 = 0 → ((¬ x2 = 1 → (P x4 (r, q))) ∧ (x2 = 1 → (P (r 36) (r, q))))) ∧ (x2 = 0 → (P x3 (r, q))))) ∧ (¬ (r 36) ≤ x5 → (vp_in x5 10 ∧ (vp_in (q 11 (Int32.toNatClampNeg x5)) 1024 ∧ (∀ v18 : Int32, v18 = (x3 + (q 7 (Int32.toNatClampNeg (q 11 (Int32.toNatClampNeg x5))))) → (vp_in x5 10 ∧ ((gix x1 ∧ ¬ x1 = (0 : Int32)) ∧ (((hasF (q 11 (Int32.toNatClampNeg x5)) (nI (lowN (iv x1)))) = 0 → (∀ v22 : Int32, v22 = x5 + 1 → (rec x1 x2 v18 x4 v22 r q))) ∧ (¬ (hasF (q 11 (Int32.toNatClampNeg x5)) (nI (lowN (iv x1)))) = 0 → (vp_in x5 10 ∧ (∀ v24 : Int32, v24 = (q 11 (Int32.toNatClampNeg x5)) → (∀ v25 : Int32, v25 = x5 + 1 → (rec x1 x2 v18 v24 v25 r q))))))))))))
def wp_X11_merged_74 (P : Int32 → RST → Prop) : Nat → Int32 → Int32 → Int32 → Int32 → Int32 → (Nat → Int32) → (Nat → Nat → Int32) → Prop
  | 0 => fun _ _ _ _ _ _ _ => False
  | n + 1 => fun x1 x2 x3 x4 x5 r q => wb_X11_merged_74 (wp_X11_merged_74  P n)  P x1 x2 x3 x4 x5 r q
set_option maxRecDepth 100000 in
set_option maxHeartbeats 4000000 in
theorem t_X11_merged_74 {p : Program} {l : Launch} {e : Env} {s : State} {m : MethodId} {args : Array Value} {below : List Frame} {meth : Method} {c : Code} {D : va_G} {A : Nat → Prop} {T : Nat → ClassId} {m0 : Nat} {a : Nat → Nat} (C : GC p s m args meth c cX11_merged "FreightRaterModel" (ws_X11_merged) 6 D A (zty T)) (hr : meth.sig.returnType = (some .int)) (P : Int32 → RST → Prop) : ∀ (n : Nat) (x1 : Int32) (x2 : Int32) (x3 : Int32) (x4 : Int32) (x5 : Int32) (r : Nat → Int32) (q : Nat → Nat → Int32), wp_X11_merged_74  P n x1 x2 x3 x4 x5 r q → GW p l e rm_X11_merged s m args below meth c D A 6 0 0 (MQ below (va_Qi P (RE D T m0 a A) A) args s 0 0 A) (RW m0 a T r q) 0 0 74 [(0, .ref m0), (1, .int x1), (2, .int x2), (3, .int x3), (4, .int x4), (5, .int x5)] [] := by
  have hw : ∀ {w : Cond}, w ∈ W0 → w.before args s = true := fun h => C.2.2.2.2.1 _ (List.mem_cons_of_mem _ h)
  intro n
  induction n with
  | zero => intro x1 x2 x3 x4 x5 r q h; exact h.elim
  | succ n ih =>
    intro x1 x2 x3 x4 x5 r q h
    replace h : wb_X11_merged_74 (wp_X11_merged_74  P n)  P x1 x2 x3 x4 x5 r q := h
    unfold wb_X11_merged_74 at h
    refine g_iload C dX11_merged_74 5 rfl ?_
    refine g_aload_n C dX11_merged_76 rfl 0 rfl ?_
    refine gr_get C iwx_X11 36 (hw kw_1845) (by decide) rfl rfl dX11_merged_77 ?_
    refine g_icmp_ge (tgt := 135) C dX11_merged_80 (by decide) (fun z13 => ?_) (fun z13 => ?_)
    · replace h := h.1 z13
      refine g_iload_n C dX11_merged_135 rfl 2 rfl ?_
      refine g_if_ne (tgt := 143) C dX11_merged_136 (by decide) (fun z14 => ?_) (fun z14 => ?_)
      · replace h := h.1 z14
        refine g_iload_n C dX11_merged_143 rfl 2 rfl ?_
        refine g_iconst (v := 1) C dX11_merged_144 (by decide) ?_
        refine g_icmp_ne (tgt := 155) C dX11_merged_145 (by decide) (fun z15 => ?_) (fun z15 => ?_)
        · replace h := h.1 z15
          refine g_iload C dX11_merged_155 4 rfl ?_
          exact gr_iret C hr dX11_merged_157 h
        · replace h := h.2 z15
          refine g_aload_n C dX11_merged_148 rfl 0 rfl ?_
          refine gr_get C iwx_X11 36 (hw kw_1845) (by decide) rfl rfl dX11_merged_149 ?_
          refine g_goto (tgt := 157) C dX11_merged_152 (by decide) ?_
          exact gr_iret C hr dX11_merged_157 h
      · replace h := h.2 z14
        refine g_iload_n C dX11_merged_139 rfl 3 rfl ?_
        refine g_goto (tgt := 157) C dX11_merged_140 (by decide) ?_
        exact gr_iret C hr dX11_merged_157 h
    · replace h := h.2 z13
      refine g_iload_n C dX11_merged_83 rfl 3 rfl ?_
      refine g_aload_n C dX11_merged_84 rfl 0 rfl ?_
      refine gr_get C iwx_X11 31 (hw kw_1840) (by decide) rfl rfl dX11_merged_85 ?_
      refine g_aload_n C dX11_merged_88 rfl 0 rfl ?_
      refine gr_get C iwx_X11 37 (hw kw_1846) (by decide) rfl rfl dX11_merged_89 ?_
      refine g_iload C dX11_merged_92 5 rfl ?_
      obtain ⟨g16, h⟩ := h
      refine gr_ald_11 C g16 dX11_merged_94 ?_
      obtain ⟨g17, h⟩ := h
      refine gr_ald_7 C g17 dX11_merged_95 ?_
      refine g_iadd C dX11_merged_96 ?_
      refine g_topi (fun v18 ev18 => ?_)
      replace h := h v18 ev18
      refine g_istore_n (lv' := [(3, .int v18), (0, .ref m0), (1, .int x1), (2, .int x2), (4, .int x4), (5, .int x5)]) C dX11_merged_97 rfl (by decide) rfl ?_
      refine g_aload_n C dX11_merged_98 rfl 1 rfl ?_
      refine gr_get C iwx_X11 37 (hw kw_1846) (by decide) rfl rfl dX11_merged_99 ?_
      refine g_iload C dX11_merged_102 5 rfl ?_
      obtain ⟨g19, h⟩ := h
      refine gr_ald_11 C g19 dX11_merged_104 ?_
      refine g_iload_n C dX11_merged_105 rfl 2 rfl ?_
      obtain ⟨g20, h⟩ := h
      refine gr_callSf C [.int x1] rfl (k_X11_lowest l D T m0 a x1 r q g20) (w0_S 1 C.2.2.2.2.1 kw_2175 kw_2176 kw_9 kw_2177 rfl rfl (by decide +kernel) ⟨by decide, by decide⟩) rfl (Nat.le_of_ble_eq_true rfl) (Nat.zero_le _) (Nat.zero_le _) dX11_merged_106 ?_
      refine gr_callSf C [.int (q 11 (Int32.toNatClampNeg x5)), .int (nI (lowN (iv x1)))] rfl (k_X11_has l D T m0 a (q 11 (Int32.toNatClampNeg x5)) (nI (lowN (iv x1))) r q) (w0_S 2 C.2.2.2.2.1 kw_2178 kw_2179 kw_9 kw_2180 rfl rfl (by decide +kernel) ⟨by decide, by decide⟩) rfl (Nat.le_of_ble_eq_true rfl) (Nat.zero_le _) (Nat.zero_le _) dX11_merged_109 ?_
      refine g_if_eq (tgt := 125) C dX11_merged_112 (by decide) (fun z21 => ?_) (fun z21 => ?_)
      · replace h := h.1 z21
        refine g_iload C dX11_merged_125 4 rfl ?_
        refine g_istore (lv' := [(4, .int x4), (3, .int v18), (0, .ref m0), (1, .int x1), (2, .int x2), (5, .int x5)]) C dX11_merged_127 (by decide) rfl ?_
        obtain ⟨v22, ev22⟩ : ∃ y : Int32, y = x5 + 1 := ⟨_, rfl⟩
        replace h := h v22 ev22
        refine g_iinc (v := v22) (lv' := [(5, .int v22), (4, .int x4), (3, .int v18), (0, .ref m0), (1, .int x1), (2, .int x2)]) C dX11_merged_129 (j := 5) rfl (by rw [ev22]; rfl) (by decide) rfl ?_
        refine g_goto (tgt := 74) C dX11_merged_132 (by decide) ?_
        refine g_locals [3, 4, 5, 2, 1, 0] rfl ?_
        exact ih x1 x2 v18 x4 v22 r q h
      · replace h := h.2 z21
        refine g_aload_n C dX11_merged_115 rfl 1 rfl ?_
        refine gr_get C iwx_X11 37 (hw kw_1846) (by decide) rfl rfl dX11_merged_116 ?_
        refine g_iload C dX11_merged_119 5 rfl ?_
        obtain ⟨g23, h⟩ := h
        refine gr_ald_11 C g23 dX11_merged_121 ?_
        refine g_goto (tgt := 127) C dX11_merged_122 (by decide) ?_
        refine g_topi (fun v24 ev24 => ?_)
        replace h := h v24 ev24
        refine g_istore (lv' := [(4, .int v24), (3, .int v18), (0, .ref m0), (1, .int x1), (2, .int x2), (5, .int x5)]) C dX11_merged_127 (by decide) rfl ?_
        obtain ⟨v25, ev25⟩ : ∃ y : Int32, y = x5 + 1 := ⟨_, rfl⟩
        replace h := h v25 ev25
        refine g_iinc (v := v25) (lv' := [(5, .int v25), (4, .int v24), (3, .int v18), (0, .ref m0), (1, .int x1), (2, .int x2)]) C dX11_merged_129 (j := 5) rfl (by rw [ev25]; rfl) (by decide) rfl ?_
        refine g_goto (tgt := 74) C dX11_merged_132 (by decide) ?_
        refine g_locals [3, 4, 5, 2, 1, 0] rfl ?_
        exact ih x1 x2 v18 v24 v25 r q h
def wp_X11_merged_32 (P : Int32 → RST → Prop) (x1 : Int32) (x2 : Int32) (r : Nat → Int32) (q : Nat → Nat → Int32) : Prop := (¬ (r 6) = 0 → (((r 6) ≤ 0 → ((WF (q 0) ∧ gok (q 0) x1) ∧ (∀ (r10 : Nat → Int32) (q11 : Nat → Nat → Int32), (lmP r q (iv x1) r10 q11) → (∃ k26 : Nat, wp_X11_merged_74  P k26 x1 x2 0 0 0 r10 q11)))) ∧ (¬ (r 6) ≤ 0 → (P 0 (r, q))))) ∧ ((r 6) = 0 → ((WF (q 0) ∧ gok (q 0) x1) ∧ (∀ (v27 : Int32) (r28 : Nat → Int32) (q29 : Nat → Nat → Int32), (q29 = q ∧ kR r r28 [17, 18, 19, 20, 21, 22, 23, 35] ∧ v27 = (match rfF (q 0) (iv x1) with | none => 0 | some _ => 1) ∧ ∀ s, rfF (q 0) (iv x1) = some s → r28 35 = nI (rsnD (q 0) (2 ^ s)).1 ∧ r28 17 = (rsnD (q 0) (2 ^ s)).2) → ((v27 = 0 → (((r28 6) ≤ 0 → ((WF (q29 0) ∧ gok (q29 0) x1) ∧ (∀ (r34 : Nat → Int32) (q35 : Nat → Nat → Int32), (lmP r28 q29 (iv x1) r34 q35) → (∃ k37 : Nat, wp_X11_merged_74  P k37 x1 x2 0 0 0 r34 q35)))) ∧ (¬ (r28 6) ≤ 0 → (P 0 (r28, q29))))) ∧ (¬ v27 = 0 → (∀ r38 : Nat → Int32, r38 = va_up r28 6 3 → (((r38 6) ≤ 0 → ((WF (q29 0) ∧ gok (q29 0) x1) ∧ (∀ (r41 : Nat → Int32) (q42 : Nat → Nat → Int32), (lmP r38 q29 (iv x1) r41 q42) → (∃ k44 : Nat, wp_X11_merged_74  P k44 x1 x2 0 0 0 r41 q42)))) ∧ (¬ (r38 6) ≤ 0 → (P 0 (r38, q29))))))))))
set_option maxRecDepth 100000 in
set_option maxHeartbeats 4000000 in
theorem t_X11_merged_32 {p : Program} {l : Launch} {e : Env} {s : State} {m : MethodId} {args : Array Value} {below : List Frame} {meth : Method} {c : Code} {D : va_G} {A : Nat → Prop} {T : Nat → ClassId} {m0 : Nat} {a : Nat → Nat} (C : GC p s m args meth c cX11_merged "FreightRaterModel" (ws_X11_merged) 6 D A (zty T)) (hr : meth.sig.returnType = (some .int)) (P : Int32 → RST → Prop) : ∀ (x1 : Int32) (x2 : Int32) (r : Nat → Int32) (q : Nat → Nat → Int32), wp_X11_merged_32  P x1 x2 r q → GW p l e rm_X11_merged s m args below meth c D A 6 0 0 (MQ below (va_Qi P (RE D T m0 a A) A) args s 0 0 A) (RW m0 a T r q) 0 0 32 [(0, .ref m0), (1, .int x1), (2, .int x2)] [] := by
  have hw : ∀ {w : Cond}, w ∈ W0 → w.before args s = true := fun h => C.2.2.2.2.1 _ (List.mem_cons_of_mem _ h)
  intro x1 x2 r q h
  unfold wp_X11_merged_32 at h
  refine g_aload_n C dX11_merged_32 rfl 0 rfl ?_
  refine gr_get C iwx_X11 6 (hw kw_1815) (by decide) rfl rfl dX11_merged_33 ?_
  refine g_if_ne (tgt := 52) C dX11_merged_36 (by decide) (fun z7 => ?_) (fun z7 => ?_)
  · replace h := h.1 z7
    refine g_aload_n C dX11_merged_52 rfl 0 rfl ?_
    refine gr_get C iwx_X11 6 (hw kw_1815) (by decide) rfl rfl dX11_merged_53 ?_
    refine g_if_le (tgt := 61) C dX11_merged_56 (by decide) (fun z8 => ?_) (fun z8 => ?_)
    · replace h := h.1 z8
      refine g_aload_n C dX11_merged_61 rfl 0 rfl ?_
      refine g_iload_n C dX11_merged_62 rfl 1 rfl ?_
      obtain ⟨g12, h⟩ := h
      refine gr_callvV C [.int x1] rfl (k_X11_layMerged l D T m0 a x1 r q g12) (w0_V 1 C.2.2.2.2.1 kw_2279 kw_2281 ks_101 kw_9 kw_2282 rfl rfl (by decide +kernel) ⟨by decide, by decide⟩) rfl (Nat.le_of_ble_eq_true rfl) (Nat.zero_le _) (Nat.zero_le _) dX11_merged_63 (fun r10 q11 hp => ?_)
      replace h := h r10 q11 hp
      refine g_iconst (v := 0) C dX11_merged_66 (by decide) ?_
      refine g_istore_n (lv' := [(3, .int 0), (0, .ref m0), (1, .int x1), (2, .int x2)]) C dX11_merged_67 rfl (by decide) rfl ?_
      refine g_iconst (v := 0) C dX11_merged_68 (by decide) ?_
      refine g_istore (lv' := [(4, .int 0), (3, .int 0), (0, .ref m0), (1, .int x1), (2, .int x2)]) C dX11_merged_69 (by decide) rfl ?_
      refine g_iconst (v := 0) C dX11_merged_71 (by decide) ?_
      refine g_istore (lv' := [(5, .int 0), (4, .int 0), (3, .int 0), (0, .ref m0), (1, .int x1), (2, .int x2)]) C dX11_merged_72 (by decide) rfl ?_
      refine g_locals [3, 4, 5, 2, 1, 0] rfl ?_
      obtain ⟨k26, h⟩ := h
      refine t_X11_merged_74 C hr  P  k26 x1 x2 0 0 0 r10 q11 h
    · replace h := h.2 z8
      refine g_iconst (v := 0) C dX11_merged_59 (by decide) ?_
      exact gr_iret C hr dX11_merged_60 h
  · replace h := h.2 z7
    refine g_aload_n C dX11_merged_39 rfl 0 rfl ?_
    refine g_iload_n C dX11_merged_40 rfl 1 rfl ?_
    obtain ⟨g30, h⟩ := h
    refine gr_calliV C [.int x1] rfl (k_X11_hasRefused l D T m0 a x1 r q g30) (w0_V 1 C.2.2.2.2.1 kw_2251 kw_2253 ks_97 kw_9 kw_2254 rfl rfl (by decide +kernel) ⟨by decide, by decide⟩) rfl (Nat.le_of_ble_eq_true rfl) (Nat.zero_le _) (Nat.zero_le _) dX11_merged_41 (fun v27 r28 q29 hp => ?_)
    replace h := h v27 r28 q29 hp
    refine g_if_eq (tgt := 52) C dX11_merged_44 (by decide) (fun z31 => ?_) (fun z31 => ?_)
    · replace h := h.1 z31
      refine g_aload_n C dX11_merged_52 rfl 0 rfl ?_
      refine gr_get C iwx_X11 6 (hw kw_1815) (by decide) rfl rfl dX11_merged_53 ?_
      refine g_if_le (tgt := 61) C dX11_merged_56 (by decide) (fun z32 => ?_) (fun z32 => ?_)
      · replace h := h.1 z32
        refine g_aload_n C dX11_merged_61 rfl 0 rfl ?_
        refine g_iload_n C dX11_merged_62 rfl 1 rfl ?_
        obtain ⟨g36, h⟩ := h
        refine gr_callvV C [.int x1] rfl (k_X11_layMerged l D T m0 a x1 r28 q29 g36) (w0_V 1 C.2.2.2.2.1 kw_2279 kw_2281 ks_101 kw_9 kw_2282 rfl rfl (by decide +kernel) ⟨by decide, by decide⟩) rfl (Nat.le_of_ble_eq_true rfl) (Nat.zero_le _) (Nat.zero_le _) dX11_merged_63 (fun r34 q35 hp => ?_)
        replace h := h r34 q35 hp
        refine g_iconst (v := 0) C dX11_merged_66 (by decide) ?_
        refine g_istore_n (lv' := [(3, .int 0), (0, .ref m0), (1, .int x1), (2, .int x2)]) C dX11_merged_67 rfl (by decide) rfl ?_
        refine g_iconst (v := 0) C dX11_merged_68 (by decide) ?_
        refine g_istore (lv' := [(4, .int 0), (3, .int 0), (0, .ref m0), (1, .int x1), (2, .int x2)]) C dX11_merged_69 (by decide) rfl ?_
        refine g_iconst (v := 0) C dX11_merged_71 (by decide) ?_
        refine g_istore (lv' := [(5, .int 0), (4, .int 0), (3, .int 0), (0, .ref m0), (1, .int x1), (2, .int x2)]) C dX11_merged_72 (by decide) rfl ?_
        refine g_locals [3, 4, 5, 2, 1, 0] rfl ?_
        obtain ⟨k37, h⟩ := h
        refine t_X11_merged_74 C hr  P  k37 x1 x2 0 0 0 r34 q35 h
      · replace h := h.2 z32
        refine g_iconst (v := 0) C dX11_merged_59 (by decide) ?_
        exact gr_iret C hr dX11_merged_60 h
    · replace h := h.2 z31
      refine g_aload_n C dX11_merged_47 rfl 0 rfl ?_
      refine g_iconst (v := 3) C dX11_merged_48 (by decide) ?_
      refine gr_put_6 C iwx_X11 (hw kw_1815) dX11_merged_49 ?_
      refine gr_nr (fun r38 er38 => ?_)
      replace h := h r38 er38
      refine g_aload_n C dX11_merged_52 rfl 0 rfl ?_
      refine gr_get C iwx_X11 6 (hw kw_1815) (by decide) rfl rfl dX11_merged_53 ?_
      refine g_if_le (tgt := 61) C dX11_merged_56 (by decide) (fun z39 => ?_) (fun z39 => ?_)
      · replace h := h.1 z39
        refine g_aload_n C dX11_merged_61 rfl 0 rfl ?_
        refine g_iload_n C dX11_merged_62 rfl 1 rfl ?_
        obtain ⟨g43, h⟩ := h
        refine gr_callvV C [.int x1] rfl (k_X11_layMerged l D T m0 a x1 r38 q29 g43) (w0_V 1 C.2.2.2.2.1 kw_2279 kw_2281 ks_101 kw_9 kw_2282 rfl rfl (by decide +kernel) ⟨by decide, by decide⟩) rfl (Nat.le_of_ble_eq_true rfl) (Nat.zero_le _) (Nat.zero_le _) dX11_merged_63 (fun r41 q42 hp => ?_)
        replace h := h r41 q42 hp
        refine g_iconst (v := 0) C dX11_merged_66 (by decide) ?_
        refine g_istore_n (lv' := [(3, .int 0), (0, .ref m0), (1, .int x1), (2, .int x2)]) C dX11_merged_67 rfl (by decide) rfl ?_
        refine g_iconst (v := 0) C dX11_merged_68 (by decide) ?_
        refine g_istore (lv' := [(4, .int 0), (3, .int 0), (0, .ref m0), (1, .int x1), (2, .int x2)]) C dX11_merged_69 (by decide) rfl ?_
        refine g_iconst (v := 0) C dX11_merged_71 (by decide) ?_
        refine g_istore (lv' := [(5, .int 0), (4, .int 0), (3, .int 0), (0, .ref m0), (1, .int x1), (2, .int x2)]) C dX11_merged_72 (by decide) rfl ?_
        refine g_locals [3, 4, 5, 2, 1, 0] rfl ?_
        obtain ⟨k44, h⟩ := h
        refine t_X11_merged_74 C hr  P  k44 x1 x2 0 0 0 r41 q42 h
      · replace h := h.2 z39
        refine g_iconst (v := 0) C dX11_merged_59 (by decide) ?_
        exact gr_iret C hr dX11_merged_60 h
def wp_X11_merged (P : Int32 → RST → Prop) (p0 : Int32) (p1 : Int32) (r : Nat → Int32) (q : Nat → Nat → Int32) : Prop := (WF (q 0) ∧ rix 8) ∧ (∀ (v1 : Int32) (r2 : Nat → Int32) (q3 : Nat → Nat → Int32), (v1 = lckF (q 0) p0 (iv 8) ∧ r2 = va_up r 35 0 ∧ q3 = q) → (∀ r5 : Nat → Int32, r5 = va_up r2 6 v1 → ((¬ (r5 6) = 0 → (wp_X11_merged_32  P p0 p1 r5 q3)) ∧ ((r5 6) = 0 → ((¬ (zin p1 0 2) = 0 → (wp_X11_merged_32  P p0 p1 r5 q3)) ∧ ((zin p1 0 2) = 0 → (∀ r46 : Nat → Int32, r46 = va_up r5 6 2 → (wp_X11_merged_32  P p0 p1 r46 q3))))))))
set_option maxRecDepth 100000 in
set_option maxHeartbeats 4000000 in
theorem t_X11_merged {p : Program} {l : Launch} {e : Env} {s : State} {m : MethodId} {args : Array Value} {below : List Frame} {meth : Method} {c : Code} {D : va_G} {A : Nat → Prop} {T : Nat → ClassId} {m0 : Nat} {a : Nat → Nat} (C : GC p s m args meth c cX11_merged "FreightRaterModel" (ws_X11_merged) 6 D A (zty T)) (hr : meth.sig.returnType = (some .int)) (P : Int32 → RST → Prop) : ∀ (p0 : Int32) (p1 : Int32) (r : Nat → Int32) (q : Nat → Nat → Int32), wp_X11_merged P p0 p1 r q → GW p l e rm_X11_merged s m args below meth c D A 6 0 0 (MQ below (va_Qi P (RE D T m0 a A) A) args s 0 0 A) (RW m0 a T r q) 0 0 0 [(0, .ref m0), (1, .int p0), (2, .int p1)] [] := by
  have hw : ∀ {w : Cond}, w ∈ W0 → w.before args s = true := fun h => C.2.2.2.2.1 _ (List.mem_cons_of_mem _ h)
  intro p0 p1 r q h
  unfold wp_X11_merged at h
  refine g_aload_n C dX11_merged_0 rfl 0 rfl ?_
  refine g_aload_n C dX11_merged_1 rfl 0 rfl ?_
  refine g_iload_n C dX11_merged_2 rfl 1 rfl ?_
  refine g_bipush (v := 8) C dX11_merged_3 (by decide) ?_
  obtain ⟨g4, h⟩ := h
  refine gr_calliV C [.int p0, .int 8] rfl (k_X11_lacks l D T m0 a p0 8 r q g4) (w0_V 2 C.2.2.2.2.1 kw_2247 kw_2249 ks_96 kw_9 kw_2250 rfl rfl (by decide +kernel) ⟨by decide, by decide⟩) rfl (Nat.le_of_ble_eq_true rfl) (Nat.zero_le _) (Nat.zero_le _) dX11_merged_5 (fun v1 r2 q3 hp => ?_)
  replace h := h v1 r2 q3 hp
  refine gr_put_6 C iwx_X11 (hw kw_1815) dX11_merged_8 ?_
  refine gr_nr (fun r5 er5 => ?_)
  replace h := h r5 er5
  refine g_aload_n C dX11_merged_11 rfl 0 rfl ?_
  refine gr_get C iwx_X11 6 (hw kw_1815) (by decide) rfl rfl dX11_merged_12 ?_
  refine g_if_ne (tgt := 32) C dX11_merged_15 (by decide) (fun z6 => ?_) (fun z6 => ?_)
  · replace h := h.1 z6
    refine g_locals [0, 1, 2] rfl ?_
    refine t_X11_merged_32 C hr  P  p0 p1 r5 q3 h
  · replace h := h.2 z6
    refine g_iload_n C dX11_merged_18 rfl 2 rfl ?_
    refine g_iconst (v := 0) C dX11_merged_19 (by decide) ?_
    refine g_iconst (v := 2) C dX11_merged_20 (by decide) ?_
    refine gr_callSf C [.int p1, .int 0, .int 2] rfl (k_X11_in l D T m0 a p1 0 2 r5 q3) (w0_S 3 C.2.2.2.2.1 kw_1944 kw_1945 kw_9 kw_1946 rfl rfl (by decide +kernel) ⟨by decide, by decide⟩) rfl (Nat.le_of_ble_eq_true rfl) (Nat.zero_le _) (Nat.zero_le _) dX11_merged_21 ?_
    refine g_if_ne (tgt := 32) C dX11_merged_24 (by decide) (fun z45 => ?_) (fun z45 => ?_)
    · replace h := h.1 z45
      refine g_locals [0, 1, 2] rfl ?_
      refine t_X11_merged_32 C hr  P  p0 p1 r5 q3 h
    · replace h := h.2 z45
      refine g_aload_n C dX11_merged_27 rfl 0 rfl ?_
      refine g_iconst (v := 2) C dX11_merged_28 (by decide) ?_
      refine gr_put_6 C iwx_X11 (hw kw_1815) dX11_merged_29 ?_
      refine gr_nr (fun r46 er46 => ?_)
      replace h := h r46 er46
      refine g_locals [0, 1, 2] rfl ?_
      refine t_X11_merged_32 C hr  P  p0 p1 r46 q3 h
theorem c_X11_merged (l : Launch) (D : va_G) (T : Nat → ClassId) (m0 : Nat) (a : Nat → Nat) (p0 : Int32) (p1 : Int32) (r : Nat → Int32) (q : Nat → Nat → Int32) (P : Int32 → RST → Prop) (h : wp_X11_merged P p0 p1 r q) : RMi l yX11_merged (ws_X11_merged) rm_X11_merged D T m0 a [.ref m0, .int p0, .int p1] r q P := gr_meti (by decide) rfl rfl (Nat.le_of_ble_eq_true rfl) (fun p e s m args below meth c A C hr => t_X11_merged C hr P p0 p1 r q h)
theorem rl_m74 {P : Int32 → RST → Prop} {r : Nat → Int32} {q : Nat → Nat → Int32} {T : Nat → Int32} {n m : Nat} {w : Int32} (hn : n < 1024) (h0 : 0 < n) (hm : m ≤ 10) (h36 : r 36 = nI m) : ∀ (l : List Nat) (i fuel : Nat) (x y : Int32), i + l.length = m → l.length < fuel → (∀ j, j < l.length → q 11 (i + j) = nI (gl l j) ∧ gl l j < 1024 ∧ q 7 (gl l j) = T (gl l j)) → P (if w = 0 then suL T l x else if w = 1 then nI m else loL (lowN n) l y) (r, q) → wp_X11_merged_74 P fuel (nI n) w x y (nI i) r q := by
  intro l
  induction l with
  | nil =>
    intro i fuel x y hi hf hl hP
    rw [List.length_nil] at hi
    obtain ⟨f, rfl⟩ : ∃ f, fuel = f + 1 := ⟨fuel - 1, by omega⟩; rw [wp_X11_merged_74]; unfold wb_X11_merged_74; dsimp only
    rw [h36, nI_leI (by omega) (by omega)]
    refine ⟨fun _ => ⟨fun c => ⟨fun c2 => ?_, fun c2 => ?_⟩, fun c => ?_⟩, fun z9 => absurd (by omega) z9⟩
    · rw [if_neg c, if_neg c2] at hP; exact hP
    · rw [if_neg c, if_pos c2] at hP; exact hP
    · rw [if_pos c] at hP; exact hP
  | cons g l ih =>
    intro i fuel x y hi hf hl hP
    rw [List.length_cons] at hi hf
    obtain ⟨h1, h2, h3⟩ := hl 0 (by rw [List.length_cons]; omega)
    rw [Nat.add_zero] at h1
    have eg : gl (g :: l) 0 = g := rfl
    rw [eg] at h1 h2 h3
    have hlow : lowN n < 10 := low_ns (ns := 10) (Nat.le_refl _) h0 hn
    have hh := has_0 (n := g) (s := lowN n) h2 hlow
    obtain ⟨f, rfl⟩ : ∃ f, fuel = f + 1 := ⟨fuel - 1, by omega⟩; rw [wp_X11_merged_74]; unfold wb_X11_merged_74; dsimp only
    rw [h36, nI_leI (by omega) (by omega), nz_vp (a := i) (by omega) (by decide), nI_clamp (n := i) (by omega), h1, nz_vp (a := g) (by omega) (by decide), nI_clamp (n := g) (by omega), h3, show iv (nI n) = n from nI_clamp (by omega), hh, nI_1]
    have step : ∀ v24 : Int32, v24 = nI (i + 1) → wp_X11_merged_74 P f (nI n) w (x + T g) (if g.testBit (lowN n) = true then nI g else y) v24 r q := fun v24 e24 => by
      subst e24
      refine ih (i + 1) f _ _ (by omega) (by omega) (fun j hj => ?_) hP
      have := hl (j + 1) (by rw [List.length_cons]; omega)
      rw [show i + (j + 1) = i + 1 + j by omega] at this
      exact this
    refine ⟨fun z9 => absurd z9 (by omega), fun _ => ⟨by omega, h2, fun v17 e17 => ⟨by omega, ⟨⟨n, hn, rfl⟩, fun z9 => by rw [nz_eq0 (by omega)] at z9; omega⟩, fun c v21 e21 => ?_, fun c => ⟨by omega, fun v23 e23 v24 e24 => ?_⟩⟩⟩⟩
    · subst e17
      have := step v21 e21
      rw [if_neg c] at this
      exact this
    · subst e17 e23
      have := step v24 e24
      rw [if_pos (by simpa using c)] at this
      exact this
theorem k_X11_merged (l : Launch) (D : va_G) (T : Nat → ClassId) (m0 : Nat) (a : Nat → Nat) (p0 : Int32) (p1 : Int32) (r : Nat → Int32) (q : Nat → Nat → Int32) (h : WF (q 0)) : RMi l yX11_merged (ws_X11_merged) rm_X11_merged D T m0 a [.ref m0, .int p0, .int p1] r q (fun v u => (kQ q u.2 [7, 11] ∧ kR r u.1 SC ∧ u.1 6 = meC (q 0) p0 p1 ∧ (meC (q 0) p0 p1 = 0 → v = meA (q 0) (iv p0) p1))) := c_X11_merged l D T m0 a p0 p1 r q _ <|
  (by
    have hw := h
    unfold wp_X11_merged
    refine ⟨⟨hw, ⟨8, by decide, rfl⟩⟩, fun v1 r2 q3 hh => ?_⟩
    obtain ⟨a1, a2, a3⟩ := hh
    subst a3
    rw [show iv 8 = 8 from rfl] at a1
    have k2 : kR r r2 SC := by rw [a2]; exact kR.rf.up (by decide) _
    refine fun r5 e5 => ?_
    have k5 : kR r r5 SC := by rw [e5]; exact k2.up (by decide) _
    have s5 : r5 6 = lckF (q3 0) p0 8 := by rw [e5, va_up_self, a1]
    -- a code
    have bad : ∀ (r6 : Nat → Int32) (c : Int32), kR r r6 SC → r6 6 = c → meC (q3 0) p0 p1 = c → ¬ c ≤ 0 → wp_X11_merged_32 (fun v u => kQ q3 u.2 [7, 11] ∧ kR r u.1 SC ∧ u.1 6 = meC (q3 0) p0 p1 ∧ (meC (q3 0) p0 p1 = 0 → v = meA (q3 0) (iv p0) p1)) p0 p1 r6 q3 := by
      intro r6 c k6 s6 hC hc
      unfold wp_X11_merged_32
      rw [s6]
      refine ⟨fun _ => ⟨fun z9 => absurd z9 hc, fun _ => ⟨kQ.rf, k6, by (try dsimp only); rw [s6, hC], fun z9 => ?_⟩⟩, fun z9 => absurd (by rw [z9]; decide) hc⟩
      rw [hC] at z9
      exact absurd (by rw [z9]; decide) hc
    rw [s5]
    refine ⟨fun c => bad r5 _ k5 s5 (by unfold meC; rw [if_neg c]) (by rw [lck_p]; exact c), fun c => ⟨fun c2 => ?_, fun c2 r43 e43 => bad r43 2 (by rw [e43]; exact k5.up (by decide) _) (by rw [e43, va_up_self]) (by unfold meC; rw [if_pos c, if_pos c2]) (by decide)⟩⟩
    have hg := lck_0 hw c
    obtain ⟨n, hn, h0, en, ien⟩ := hg.n
    unfold wp_X11_merged_32
    rw [s5]
    refine ⟨fun z9 => absurd c z9, fun _ => ⟨⟨hw, hg⟩, fun v7 r8 q9 hh => ?_⟩⟩
    obtain ⟨b1, b2, b3, b4⟩ := hh
    subst b1
    have k8 : kR r r8 SC := k5.tr b2 (fun _ h => h) (by decide)
    have s8 : r8 6 = 0 := by rw [b2 6 (by decide), s5, c]
    cases hr : rfF (q9 0) (iv p0) with
    | some s =>
      rw [hr] at b3
      have hC : meC (q9 0) p0 p1 = 3 := by unfold meC; rw [if_pos c, if_neg c2, hr]
      refine ⟨fun z9 => absurd (show (1 : Int32) = 0 from b3.symm.trans z9) (by decide), fun _ r36 e36 => ⟨fun z9 => absurd z9 (by rw [e36, va_up_self]; decide), fun _ => ⟨kQ.rf, by (try dsimp only); rw [e36]; exact k8.up (by decide) _, ?_, fun z9 => absurd (hC.symm.trans z9) (by decide)⟩⟩⟩
      (try dsimp only); rw [hC, e36, va_up_self]
    | none =>
      rw [hr] at b3
      have hC : meC (q9 0) p0 p1 = 0 := by unfold meC; rw [if_pos c, if_neg c2, hr]
      refine ⟨fun _ => ⟨fun _ => ⟨⟨hw, hg⟩, fun r33 q34 hl => ?_⟩, fun z9 => absurd (by rw [s8]; decide) z9⟩, fun z9 => absurd b3 z9⟩
      obtain ⟨l1, l2, l3, l4, l5, l6, l7⟩ := hl
      subst en
      rw [ien] at l3 l4 l5 l6 l7
      have k33 : kR r r33 SC := k8.tr l1 (fun _ h => h) (by decide)
      refine ⟨20, rl_m74 (T := ttF (q9 0)) hn h0 l4 l5 (meF (q9 0) n) 0 20 0 0 (Nat.zero_add _) (by omega) (fun j hj => ?_) ⟨l2, k33, ?_, fun _ => ?_⟩⟩
      · rw [Nat.zero_add]
        exact ⟨l6 j hj, Nat.lt_of_le_of_lt (sub_le (l7 j hj).2) hn, l3 _ (l7 j hj).1 (l7 j hj).2⟩
      · (try dsimp only); rw [hC, l1 6 (by decide), s8]
      · unfold meA
        rw [ien])

end S_RWS
