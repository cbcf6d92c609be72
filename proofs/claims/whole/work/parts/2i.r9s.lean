section S_R9S
abbrev ws_X11_keepsReason : List Cond := Cond.code yX11_keepsReason cX11_keepsReason 3 (some .int) :: W0
abbrev rm_X11_keepsReason : Room := ({ frames := 1, cells := 0, slots := 0, locals := 21 } : Room)
def wp_X11_keepsReason (P : Int32 → RST → Prop) (p0 : Int32) (p1 : Int32) (r : Nat → Int32) (q : Nat → Nat → Int32) : Prop := ∀ r1 : Nat → Int32, r1 = va_up r 29 p0 → (∀ r2 : Nat → Int32, r2 = va_up r1 30 (r1 17) → (∀ (v3 : Int32) (r4 : Nat → Int32) (q5 : Nat → Nat → Int32), (v3 = 0 ∧ r4 = va_up r2 6 p1 ∧ q5 = q) → (P v3 (r4, q5))))
set_option maxRecDepth 100000 in
set_option maxHeartbeats 4000000 in
theorem t_X11_keepsReason {p : Program} {l : Launch} {e : Env} {s : State} {m : MethodId} {args : Array Value} {below : List Frame} {meth : Method} {c : Code} {D : va_G} {A : Nat → Prop} {T : Nat → ClassId} {m0 : Nat} {a : Nat → Nat} (C : GC p s m args meth c cX11_keepsReason "FreightRaterModel" (ws_X11_keepsReason) 3 D A (zty T)) (hr : meth.sig.returnType = (some .int)) (P : Int32 → RST → Prop) : ∀ (p0 : Int32) (p1 : Int32) (r : Nat → Int32) (q : Nat → Nat → Int32), wp_X11_keepsReason P p0 p1 r q → GW p l e rm_X11_keepsReason s m args below meth c D A 3 0 0 (MQ below (va_Qi P (RE D T m0 a A) A) args s 0 0 A) (RW m0 a T r q) 0 0 0 [(0, .ref m0), (1, .int p0), (2, .int p1)] [] := by
  have hw : ∀ {w : Cond}, w ∈ W0 → w.before args s = true := fun h => C.2.2.2.2.1 _ (List.mem_cons_of_mem _ h)
  intro p0 p1 r q h
  unfold wp_X11_keepsReason at h
  refine g_aload_n C dX11_keepsReason_0 rfl 0 rfl ?_
  refine g_iload_n C dX11_keepsReason_1 rfl 1 rfl ?_
  refine gr_put_29 C iwx_X11 (hw kw_1838) dX11_keepsReason_2 ?_
  refine gr_nr (fun r1 er1 => ?_)
  replace h := h r1 er1
  refine g_aload_n C dX11_keepsReason_5 rfl 0 rfl ?_
  refine g_aload_n C dX11_keepsReason_6 rfl 0 rfl ?_
  refine gr_get C iwx_X11 17 (hw kw_1826) (by decide) rfl rfl dX11_keepsReason_7 ?_
  refine gr_put_30 C iwx_X11 (hw kw_1839) dX11_keepsReason_10 ?_
  refine gr_nr (fun r2 er2 => ?_)
  replace h := h r2 er2
  refine g_aload_n C dX11_keepsReason_13 rfl 0 rfl ?_
  refine g_iload_n C dX11_keepsReason_14 rfl 2 rfl ?_
  refine gr_calliV C [.int p1] rfl (k_X11_refuse l D T m0 a p1 r2 q) (w0_V 1 C.2.2.2.2.1 kw_1950 kw_1952 ks_50 kw_9 kw_1953 rfl rfl (by decide +kernel) ⟨by decide, by decide⟩) rfl (Nat.le_of_ble_eq_true rfl) (Nat.zero_le _) (Nat.zero_le _) dX11_keepsReason_15 (fun v3 r4 q5 hp => ?_)
  replace h := h v3 r4 q5 hp
  exact gr_iret C hr dX11_keepsReason_18 h
theorem c_X11_keepsReason (l : Launch) (D : va_G) (T : Nat → ClassId) (m0 : Nat) (a : Nat → Nat) (p0 : Int32) (p1 : Int32) (r : Nat → Int32) (q : Nat → Nat → Int32) (P : Int32 → RST → Prop) (h : wp_X11_keepsReason P p0 p1 r q) : RMi l yX11_keepsReason (ws_X11_keepsReason) rm_X11_keepsReason D T m0 a [.ref m0, .int p0, .int p1] r q P := gr_meti (by decide) rfl rfl (Nat.le_of_ble_eq_true rfl) (fun p e s m args below meth c A C hr => t_X11_keepsReason C hr P p0 p1 r q h)
theorem k_X11_keepsReason (l : Launch) (D : va_G) (T : Nat → ClassId) (m0 : Nat) (a : Nat → Nat) (p0 : Int32) (p1 : Int32) (r : Nat → Int32) (q : Nat → Nat → Int32) : RMi l yX11_keepsReason (ws_X11_keepsReason) rm_X11_keepsReason D T m0 a [.ref m0, .int p0, .int p1] r q (fun v u => (v = 0 ∧ u.2 = q ∧ u.1 = va_up (va_up (va_up r 29 p0) 30 (r 17)) 6 p1)) := c_X11_keepsReason l D T m0 a p0 p1 r q _ <|
  (by
    unfold wp_X11_keepsReason
    intro r1 e1 r2 e2 v3 r4 q5 hh
    obtain ⟨h1, h2, h3⟩ := hh
    subst e1 e2 h1 h3
    simp (disch := decide) only [va_up_ne] at h2
    exact ⟨rfl, rfl, h2⟩)
abbrev ws_X11_rate : List Cond := Cond.code yX11_rate cX11_rate 3 (some .int) :: W0
abbrev rm_X11_rate : Room := ({ frames := 6, cells := 0, slots := 0, locals := 139 } : Room)
def wp_X11_rate (P : Int32 → RST → Prop) (p0 : Int32) (r : Nat → Int32) (q : Nat → Nat → Int32) : Prop := ∀ r1 : Nat → Int32, r1 = va_up r 6 0 → ((¬ (grpF (q 0) p0) = 0 → ((WF (q 0) ∧ gok (q 0) p0) ∧ (∀ (v3 : Int32) (r4 : Nat → Int32) (q5 : Nat → Nat → Int32), (v3 = nI (rsnD (q 0) (iv p0)).1 ∧ q5 = q ∧ kR r1 r4 [17, 18, 19, 20, 21, 22, 23] ∧ (¬ (rsnD (q 0) (iv p0)).1 = 0 → r4 17 = (rsnD (q 0) (iv p0)).2) ∧ ((rsnD (q 0) (iv p0)).1 = 0 → r4 18 = gvF (q 0) (iv p0) ∧ r4 19 = gzF (q 0) (iv p0) ∧ r4 20 = wtF (q 0) (iv (gvF (q 0) (iv p0))) (iv p0) ∧ r4 21 = pcF (q 0) (iv (gvF (q 0) (iv p0))) (iv p0) ∧ r4 22 = lgF (q 0) (iv (gvF (q 0) (iv p0))) (iv p0) ∧ r4 23 = hdF (q 0) (iv (gvF (q 0) (iv p0))) (iv p0))) → ((v3 ≤ 0 → ((WF (q5 0) ∧ gix p0 ∧ vix (r4 18) ∧ zix (r4 19)) ∧ (∀ (v8 : Int32) (r9 : Nat → Int32) (q10 : Nat → Nat → Int32), (v8 = toF (q5 0) (iv (r4 18)) (iv (r4 19)) (iv p0) (r4 20) (r4 21) (r4 22) (r4 23) ∧ q10 = q5 ∧ kR r4 r9 [7, 24, 25, 26, 27, 28] ∧ r9 7 = nI (chpF (q5 0) (iv (r4 18)) (iv (r4 19)) (r4 20)) ∧ r9 24 = baseF (q5 0) (iv (r4 18)) (iv (r4 19)) (r4 20) ∧ r9 25 = (exAC (q5 0) (iv (r4 18)) (iv (r4 19)) (r4 20) (r4 21) (r4 22) (r4 23)).1 ∧ r9 26 = stF (q5 0) (iv (r4 18)) (iv p0) ∧ r9 27 = fuF (q5 0) (iv (r4 18)) (iv (r4 19)) (iv p0) (r4 20) (r4 21) (r4 22) (r4 23) ∧ r9 28 = (exAC (q5 0) (iv (r4 18)) (iv (r4 19)) (r4 20) (r4 21) (r4 22) (r4 23)).2) → (P v8 (r9, q10))))) ∧ (¬ v3 ≤ 0 → (∀ (v12 : Int32) (r13 : Nat → Int32) (q14 : Nat → Nat → Int32), (v12 = 0 ∧ q14 = q5 ∧ r13 = va_up (va_up (va_up r4 29 v3) 30 (r4 17)) 6 2) → (P v12 (r13, q14)))))))) ∧ ((grpF (q 0) p0) = 0 → (∀ (v15 : Int32) (r16 : Nat → Int32) (q17 : Nat → Nat → Int32), (v15 = 0 ∧ r16 = va_up r1 6 1 ∧ q17 = q) → (P v15 (r16, q17)))))
set_option maxRecDepth 100000 in
set_option maxHeartbeats 4000000 in
theorem t_X11_rate {p : Program} {l : Launch} {e : Env} {s : State} {m : MethodId} {args : Array Value} {below : List Frame} {meth : Method} {c : Code} {D : va_G} {A : Nat → Prop} {T : Nat → ClassId} {m0 : Nat} {a : Nat → Nat} (C : GC p s m args meth c cX11_rate "FreightRaterModel" (ws_X11_rate) 3 D A (zty T)) (hr : meth.sig.returnType = (some .int)) (P : Int32 → RST → Prop) : ∀ (p0 : Int32) (r : Nat → Int32) (q : Nat → Nat → Int32), wp_X11_rate P p0 r q → GW p l e rm_X11_rate s m args below meth c D A 3 0 0 (MQ below (va_Qi P (RE D T m0 a A) A) args s 0 0 A) (RW m0 a T r q) 0 0 0 [(0, .ref m0), (1, .int p0)] [] := by
  have hw : ∀ {w : Cond}, w ∈ W0 → w.before args s = true := fun h => C.2.2.2.2.1 _ (List.mem_cons_of_mem _ h)
  intro p0 r q h
  unfold wp_X11_rate at h
  refine g_aload_n C dX11_rate_0 rfl 0 rfl ?_
  refine g_iconst (v := 0) C dX11_rate_1 (by decide) ?_
  refine gr_put_6 C iwx_X11 (hw kw_1815) dX11_rate_2 ?_
  refine gr_nr (fun r1 er1 => ?_)
  replace h := h r1 er1
  refine g_aload_n C dX11_rate_5 rfl 0 rfl ?_
  refine g_iload_n C dX11_rate_6 rfl 1 rfl ?_
  refine gr_callVf C [.int p0] rfl (k_X11_isGroup l D T m0 a p0 r1 q) (w0_V 1 C.2.2.2.2.1 kw_2167 kw_2169 ks_85 kw_9 kw_2170 rfl rfl (by decide +kernel) ⟨by decide, by decide⟩) rfl (Nat.le_of_ble_eq_true rfl) (Nat.zero_le _) (Nat.zero_le _) dX11_rate_7 ?_
  refine g_if_ne (tgt := 19) C dX11_rate_10 (by decide) (fun z2 => ?_) (fun z2 => ?_)
  · replace h := h.1 z2
    refine g_aload_n C dX11_rate_19 rfl 0 rfl ?_
    refine g_iload_n C dX11_rate_20 rfl 1 rfl ?_
    obtain ⟨g6, h⟩ := h
    refine gr_calliV C [.int p0] rfl (k_X11_reasonOf l D T m0 a p0 r1 q g6) (w0_V 1 C.2.2.2.2.1 kw_2171 kw_2173 ks_86 kw_9 kw_2174 rfl rfl (by decide +kernel) ⟨by decide, by decide⟩) rfl (Nat.le_of_ble_eq_true rfl) (Nat.zero_le _) (Nat.zero_le _) dX11_rate_21 (fun v3 r4 q5 hp => ?_)
    replace h := h v3 r4 q5 hp
    refine g_istore_n (lv' := [(2, .int v3), (0, .ref m0), (1, .int p0)]) C dX11_rate_24 rfl (by decide) rfl ?_
    refine g_iload_n C dX11_rate_25 rfl 0 rfl ?_
    refine g_if_le (tgt := 38) C dX11_rate_26 (by decide) (fun z7 => ?_) (fun z7 => ?_)
    · replace h := h.1 z7
      refine g_aload_n C dX11_rate_38 rfl 1 rfl ?_
      refine g_iload_n C dX11_rate_39 rfl 2 rfl ?_
      obtain ⟨g11, h⟩ := h
      refine gr_calliV C [.int p0] rfl (k_X11_totalOf l D T m0 a p0 r4 q5 g11) (w0_V 1 C.2.2.2.2.1 kw_2208 kw_2210 ks_93 kw_9 kw_2211 rfl rfl (by decide +kernel) ⟨by decide, by decide⟩) rfl (Nat.le_of_ble_eq_true rfl) (Nat.zero_le _) (Nat.zero_le _) dX11_rate_40 (fun v8 r9 q10 hp => ?_)
      replace h := h v8 r9 q10 hp
      exact gr_iret C hr dX11_rate_43 h
    · replace h := h.2 z7
      refine g_aload_n C dX11_rate_29 rfl 1 rfl ?_
      refine g_iload_n C dX11_rate_30 rfl 0 rfl ?_
      refine g_iconst (v := 2) C dX11_rate_31 (by decide) ?_
      refine gr_calliV C [.int v3, .int 2] rfl (k_X11_keepsReason l D T m0 a v3 2 r4 q5) (w0_V 2 C.2.2.2.2.1 kw_2204 kw_2206 ks_92 kw_9 kw_2207 rfl rfl (by decide +kernel) ⟨by decide, by decide⟩) rfl (Nat.le_of_ble_eq_true rfl) (Nat.zero_le _) (Nat.zero_le _) dX11_rate_32 (fun v12 r13 q14 hp => ?_)
      replace h := h v12 r13 q14 hp
      refine g_goto (tgt := 43) C dX11_rate_35 (by decide) ?_
      exact gr_iret C hr dX11_rate_43 h
  · replace h := h.2 z2
    refine g_aload_n C dX11_rate_13 rfl 0 rfl ?_
    refine g_iconst (v := 1) C dX11_rate_14 (by decide) ?_
    refine gr_calliV C [.int 1] rfl (k_X11_refuse l D T m0 a 1 r1 q) (w0_V 1 C.2.2.2.2.1 kw_1950 kw_1952 ks_50 kw_9 kw_1953 rfl rfl (by decide +kernel) ⟨by decide, by decide⟩) rfl (Nat.le_of_ble_eq_true rfl) (Nat.zero_le _) (Nat.zero_le _) dX11_rate_15 (fun v15 r16 q17 hp => ?_)
    replace h := h v15 r16 q17 hp
    exact gr_iret C hr dX11_rate_18 h
theorem c_X11_rate (l : Launch) (D : va_G) (T : Nat → ClassId) (m0 : Nat) (a : Nat → Nat) (p0 : Int32) (r : Nat → Int32) (q : Nat → Nat → Int32) (P : Int32 → RST → Prop) (h : wp_X11_rate P p0 r q) : RMi l yX11_rate (ws_X11_rate) rm_X11_rate D T m0 a [.ref m0, .int p0] r q P := gr_meti (by decide) rfl rfl (Nat.le_of_ble_eq_true rfl) (fun p e s m args below meth c A C hr => t_X11_rate C hr P p0 r q h)
theorem tot_eq {μ : Nat → Int32} {r : Nat → Int32} {g : Nat} (h18 : r 18 = gvF μ g) (h19 : r 19 = gzF μ g) (h20 : r 20 = wtF μ (iv (gvF μ g)) g) (h21 : r 21 = pcF μ (iv (gvF μ g)) g) (h22 : r 22 = lgF μ (iv (gvF μ g)) g) (h23 : r 23 = hdF μ (iv (gvF μ g)) g) : toF μ (iv (r 18)) (iv (r 19)) g (r 20) (r 21) (r 22) (r 23) = totF μ g := by
  unfold totF
  rw [h18, h19, h20, h21, h22, h23]
theorem nI_le0 {n : Nat} (h : n < 2 ^ 31) : (nI n ≤ 0) ↔ n = 0 := by
  rw [nz_le0 h]; omega
theorem k_X11_rate (l : Launch) (D : va_G) (T : Nat → ClassId) (m0 : Nat) (a : Nat → Nat) (p0 : Int32) (r : Nat → Int32) (q : Nat → Nat → Int32) (h : WF (q 0)) : RMi l yX11_rate (ws_X11_rate) rm_X11_rate D T m0 a [.ref m0, .int p0] r q (fun v u => (u.2 = q ∧ kR r u.1 SCK ∧ u.1 6 = rateC (q 0) p0 ∧ (rateC (q 0) p0 = 0 → v = totF (q 0) (iv p0)) ∧ u.1 29 = (if rateC (q 0) p0 = 2 then nI (rsnD (q 0) (iv p0)).1 else r 29) ∧ u.1 30 = (if rateC (q 0) p0 = 2 then (rsnD (q 0) (iv p0)).2 else r 30))) := c_X11_rate l D T m0 a p0 r q _ <|
  (by
    unfold wp_X11_rate rateC
    intro r1 e1
    have k1 : kR r r1 SCK := by rw [e1]; exact kR.rf.up (by decide) _
    refine ⟨fun c => ?_, fun c v15 r16 q17 hh => ?_⟩
    · have hg := grp_gok h c
      refine ⟨⟨h, hg⟩, fun v3 r4 q5 hh => ?_⟩
      obtain ⟨a1, a2, a3, a4, a5⟩ := hh
      subst a2 a1
      rw [if_neg c]
      have h8 := rsnD_8 (μ := q5 0) (g := iv p0)
      have k4 : kR r r4 SCK := k1.tr a3 (fun _ h => h) (by decide)
      have r429 : r4 29 = r 29 := by rw [a3 29 (by decide), e1, va_up_ne _ _ (by decide)]
      have r430 : r4 30 = r 30 := by rw [a3 30 (by decide), e1, va_up_ne _ _ (by decide)]
      have r46 : r4 6 = 0 := by rw [a3 6 (by decide), e1, va_up_self]
      refine ⟨fun c2 => ?_, fun c2 => ?_⟩
      · have c3 := (nI_le0 (by omega)).mp c2
        obtain ⟨b18, b19, b20, b21, b22, b23⟩ := a5 c3
        obtain ⟨n, ns, _, hns, _, hn, en⟩ := hg
        have hp := p2_le hns
        have ein : iv p0 = n := by rw [en]; exact nI_clamp (by omega)
        have hr0 := rsn0 (g := iv p0) h (by rw [ein, ← en]; exact grp_gok h c) (by omega) c3
        refine ⟨⟨h, (grp_gok h c).gix.1, by rw [b18]; exact hr0.1.x, by rw [b19]; exact hr0.2.1⟩, fun v8 r9 q10 hh => ?_⟩
        obtain ⟨d1, d2, d3, -⟩ := hh
        subst d2
        rw [tot_eq b18 b19 b20 b21 b22 b23] at d1
        rw [if_pos c3]
        refine ⟨rfl, k4.tr d3 (fun _ h => h) (by decide), ?_, fun _ => d1, ?_, ?_⟩ <;> dsimp only
        · rw [d3 6 (by decide), r46]
        · rw [d3 29 (by decide), r429, if_neg (by decide)]
        · rw [d3 30 (by decide), r430, if_neg (by decide)]
      · have c3 : ¬ (rsnD (q5 0) (iv p0)).1 = 0 := fun z => c2 (by rw [z]; decide)
        intro v12 r13 q14 hh
        obtain ⟨d1, d2, d3⟩ := hh
        subst d2
        rw [if_neg c3]
        refine ⟨rfl, ?_, ?_, fun z => absurd z (by decide), ?_, ?_⟩ <;> dsimp only
        · rw [d3]; exact ((k4.up (by decide) _).up (by decide) _).up (by decide) _
        · rw [d3, va_up_self]
        · rw [d3, va_up_ne _ _ (by decide), va_up_ne _ _ (by decide), va_up_self, if_pos rfl]
        · rw [d3, va_up_ne _ _ (by decide), va_up_self, if_pos rfl, a4 c3]
    · obtain ⟨d1, d2, d3⟩ := hh
      subst d3
      rw [if_pos c]
      refine ⟨rfl, ?_, ?_, fun z => absurd z (by decide), ?_, ?_⟩ <;> dsimp only
      · rw [d2]; exact k1.up (by decide) _
      · rw [d2, va_up_self]
      · rw [d2, va_up_ne _ _ (by decide), e1, va_up_ne _ _ (by decide), if_neg (by decide)]
      · rw [d2, va_up_ne _ _ (by decide), e1, va_up_ne _ _ (by decide), if_neg (by decide)])
abbrev ws_X11_refuses : List Cond := Cond.code yX11_refuses cX11_refuses 2 (some .int) :: W0
abbrev rm_X11_refuses : Room := ({ frames := 6, cells := 0, slots := 0, locals := 139 } : Room)
def wp_X11_refuses (P : Int32 → RST → Prop) (p0 : Int32) (r : Nat → Int32) (q : Nat → Nat → Int32) : Prop := ∀ r1 : Nat → Int32, r1 = va_up r 6 0 → (((grpF (q 0) p0) = 0 → (∀ (v3 : Int32) (r4 : Nat → Int32) (q5 : Nat → Nat → Int32), (v3 = 0 ∧ r4 = va_up r1 6 1 ∧ q5 = q) → (P v3 (r4, q5)))) ∧ (¬ (grpF (q 0) p0) = 0 → ((WF (q 0) ∧ gok (q 0) p0) ∧ (∀ (v6 : Int32) (r7 : Nat → Int32) (q8 : Nat → Nat → Int32), (v6 = nI (rsnD (q 0) (iv p0)).1 ∧ q8 = q ∧ kR r1 r7 [17, 18, 19, 20, 21, 22, 23] ∧ (¬ (rsnD (q 0) (iv p0)).1 = 0 → r7 17 = (rsnD (q 0) (iv p0)).2) ∧ ((rsnD (q 0) (iv p0)).1 = 0 → r7 18 = gvF (q 0) (iv p0) ∧ r7 19 = gzF (q 0) (iv p0) ∧ r7 20 = wtF (q 0) (iv (gvF (q 0) (iv p0))) (iv p0) ∧ r7 21 = pcF (q 0) (iv (gvF (q 0) (iv p0))) (iv p0) ∧ r7 22 = lgF (q 0) (iv (gvF (q 0) (iv p0))) (iv p0) ∧ r7 23 = hdF (q 0) (iv (gvF (q 0) (iv p0))) (iv p0))) → (P v6 (r7, q8))))))
set_option maxRecDepth 100000 in
set_option maxHeartbeats 4000000 in
theorem t_X11_refuses {p : Program} {l : Launch} {e : Env} {s : State} {m : MethodId} {args : Array Value} {below : List Frame} {meth : Method} {c : Code} {D : va_G} {A : Nat → Prop} {T : Nat → ClassId} {m0 : Nat} {a : Nat → Nat} (C : GC p s m args meth c cX11_refuses "FreightRaterModel" (ws_X11_refuses) 2 D A (zty T)) (hr : meth.sig.returnType = (some .int)) (P : Int32 → RST → Prop) : ∀ (p0 : Int32) (r : Nat → Int32) (q : Nat → Nat → Int32), wp_X11_refuses P p0 r q → GW p l e rm_X11_refuses s m args below meth c D A 2 0 0 (MQ below (va_Qi P (RE D T m0 a A) A) args s 0 0 A) (RW m0 a T r q) 0 0 0 [(0, .ref m0), (1, .int p0)] [] := by
  have hw : ∀ {w : Cond}, w ∈ W0 → w.before args s = true := fun h => C.2.2.2.2.1 _ (List.mem_cons_of_mem _ h)
  intro p0 r q h
  unfold wp_X11_refuses at h
  refine g_aload_n C dX11_refuses_0 rfl 0 rfl ?_
  refine g_iconst (v := 0) C dX11_refuses_1 (by decide) ?_
  refine gr_put_6 C iwx_X11 (hw kw_1815) dX11_refuses_2 ?_
  refine gr_nr (fun r1 er1 => ?_)
  replace h := h r1 er1
  refine g_aload_n C dX11_refuses_5 rfl 0 rfl ?_
  refine g_iload_n C dX11_refuses_6 rfl 1 rfl ?_
  refine gr_callVf C [.int p0] rfl (k_X11_isGroup l D T m0 a p0 r1 q) (w0_V 1 C.2.2.2.2.1 kw_2167 kw_2169 ks_85 kw_9 kw_2170 rfl rfl (by decide +kernel) ⟨by decide, by decide⟩) rfl (Nat.le_of_ble_eq_true rfl) (Nat.zero_le _) (Nat.zero_le _) dX11_refuses_7 ?_
  refine g_if_eq (tgt := 21) C dX11_refuses_10 (by decide) (fun z2 => ?_) (fun z2 => ?_)
  · replace h := h.1 z2
    refine g_aload_n C dX11_refuses_21 rfl 0 rfl ?_
    refine g_iconst (v := 1) C dX11_refuses_22 (by decide) ?_
    refine gr_calliV C [.int 1] rfl (k_X11_refuse l D T m0 a 1 r1 q) (w0_V 1 C.2.2.2.2.1 kw_1950 kw_1952 ks_50 kw_9 kw_1953 rfl rfl (by decide +kernel) ⟨by decide, by decide⟩) rfl (Nat.le_of_ble_eq_true rfl) (Nat.zero_le _) (Nat.zero_le _) dX11_refuses_23 (fun v3 r4 q5 hp => ?_)
    replace h := h v3 r4 q5 hp
    exact gr_iret C hr dX11_refuses_26 h
  · replace h := h.2 z2
    refine g_aload_n C dX11_refuses_13 rfl 0 rfl ?_
    refine g_iload_n C dX11_refuses_14 rfl 1 rfl ?_
    obtain ⟨g9, h⟩ := h
    refine gr_calliV C [.int p0] rfl (k_X11_reasonOf l D T m0 a p0 r1 q g9) (w0_V 1 C.2.2.2.2.1 kw_2171 kw_2173 ks_86 kw_9 kw_2174 rfl rfl (by decide +kernel) ⟨by decide, by decide⟩) rfl (Nat.le_of_ble_eq_true rfl) (Nat.zero_le _) (Nat.zero_le _) dX11_refuses_15 (fun v6 r7 q8 hp => ?_)
    replace h := h v6 r7 q8 hp
    refine g_goto (tgt := 26) C dX11_refuses_18 (by decide) ?_
    exact gr_iret C hr dX11_refuses_26 h
theorem c_X11_refuses (l : Launch) (D : va_G) (T : Nat → ClassId) (m0 : Nat) (a : Nat → Nat) (p0 : Int32) (r : Nat → Int32) (q : Nat → Nat → Int32) (P : Int32 → RST → Prop) (h : wp_X11_refuses P p0 r q) : RMi l yX11_refuses (ws_X11_refuses) rm_X11_refuses D T m0 a [.ref m0, .int p0] r q P := gr_meti (by decide) rfl rfl (Nat.le_of_ble_eq_true rfl) (fun p e s m args below meth c A C hr => t_X11_refuses C hr P p0 r q h)
theorem k_X11_refuses (l : Launch) (D : va_G) (T : Nat → ClassId) (m0 : Nat) (a : Nat → Nat) (p0 : Int32) (r : Nat → Int32) (q : Nat → Nat → Int32) (h : WF (q 0)) : RMi l yX11_refuses (ws_X11_refuses) rm_X11_refuses D T m0 a [.ref m0, .int p0] r q (fun v u => (u.2 = q ∧ kR r u.1 SC ∧ u.1 6 = (if grpF (q 0) p0 = 0 then 1 else 0) ∧ (u.1 6 = 0 → v = nI (rsnD (q 0) (iv p0)).1))) := c_X11_refuses l D T m0 a p0 r q _ <|
  (by
    unfold wp_X11_refuses
    intro r1 e1
    have k1 : kR r r1 SC := by rw [e1]; exact kR.rf.up (by decide) _
    refine ⟨fun c v3 r4 q5 hh => ?_, fun c => ?_⟩
    · obtain ⟨d1, d2, d3⟩ := hh
      subst d3
      rw [if_pos c]
      have e6 : r4 6 = 1 := by rw [d2, va_up_self]
      exact ⟨rfl, by rw [d2]; exact k1.up (by decide) _, e6, fun z => absurd (e6.symm.trans z) (by decide)⟩
    · have hg := grp_gok h c
      refine ⟨⟨h, hg⟩, fun v3 r4 q5 hh => ?_⟩
      obtain ⟨a1, a2, a3, a4, a5⟩ := hh
      subst a2
      rw [if_neg c]
      exact ⟨rfl, k1.tr a3 (fun _ h => h) (by decide), by dsimp only; rw [a3 6 (by decide), e1, va_up_self], fun _ => a1⟩)
abbrev ws_X11_rating : List Cond := Cond.code yX11_rating cX11_rating 4 (some .int) :: W0
abbrev rm_X11_rating : Room := ({ frames := 6, cells := 0, slots := 0, locals := 139 } : Room)
def wp_X11_rating_40 (P : Int32 → RST → Prop) (x1 : Int32) (x2 : Int32) (s0 : Int32) (r : Nat → Int32) (q : Nat → Nat → Int32) : Prop := ∀ r8 : Nat → Int32, r8 = va_up r 6 s0 → (((r8 6) ≤ 0 → ((WF (q 0) ∧ gix x1 ∧ vix (r8 18) ∧ zix (r8 19)) ∧ (∀ (v10 : Int32) (r11 : Nat → Int32) (q12 : Nat → Nat → Int32), (v10 = toF (q 0) (iv (r8 18)) (iv (r8 19)) (iv x1) (r8 20) (r8 21) (r8 22) (r8 23) ∧ q12 = q ∧ kR r8 r11 [7, 24, 25, 26, 27, 28] ∧ r11 7 = nI (chpF (q 0) (iv (r8 18)) (iv (r8 19)) (r8 20)) ∧ r11 24 = baseF (q 0) (iv (r8 18)) (iv (r8 19)) (r8 20) ∧ r11 25 = (exAC (q 0) (iv (r8 18)) (iv (r8 19)) (r8 20) (r8 21) (r8 22) (r8 23)).1 ∧ r11 26 = stF (q 0) (iv (r8 18)) (iv x1) ∧ r11 27 = fuF (q 0) (iv (r8 18)) (iv (r8 19)) (iv x1) (r8 20) (r8 21) (r8 22) (r8 23) ∧ r11 28 = (exAC (q 0) (iv (r8 18)) (iv (r8 19)) (r8 20) (r8 21) (r8 22) (r8 23)).2) → (vp_in (274 + 510 * (r11 18) + 47 + 10 * ((r11 19) - 1) + 2 * (r11 7)) 3334 ∧ (∀ v15 : Int32, v15 = (q12 0 (Int32.toNatClampNeg (274 + 510 * (r11 18) + 47 + 10 * ((r11 19) - 1) + 2 * (r11 7)))) → ((x2 = 0 → (P (r11 24) (r11, q12))) ∧ (¬ x2 = 0 → ((x2 = 1 → (P (r11 25) (r11, q12))) ∧ (¬ x2 = 1 → ((x2 = 2 → (P (r11 26) (r11, q12))) ∧ (¬ x2 = 2 → ((x2 = 3 → (P (r11 27) (r11, q12))) ∧ (¬ x2 = 3 → ((x2 = 4 → (P (r11 20) (r11, q12))) ∧ (¬ x2 = 4 → ((x2 = 5 → (P (if (r11 20) < v15 then v15 else (r11 20)) (r11, q12))) ∧ (¬ x2 = 5 → ((x2 = 6 → (P v15 (r11, q12))) ∧ (¬ x2 = 6 → ((x2 = 7 → (P (r11 28) (r11, q12))) ∧ (¬ x2 = 7 → ((x2 = 8 → (P (r11 19) (r11, q12))) ∧ (¬ x2 = 8 → (P (r11 18) (r11, q12))))))))))))))))))))))))) ∧ (¬ (r8 6) ≤ 0 → (P 0 (r8, q))))
set_option maxRecDepth 100000 in
set_option maxHeartbeats 4000000 in
theorem t_X11_rating_40 {p : Program} {l : Launch} {e : Env} {s : State} {m : MethodId} {args : Array Value} {below : List Frame} {meth : Method} {c : Code} {D : va_G} {A : Nat → Prop} {T : Nat → ClassId} {m0 : Nat} {a : Nat → Nat} (C : GC p s m args meth c cX11_rating "FreightRaterModel" (ws_X11_rating) 4 D A (zty T)) (hr : meth.sig.returnType = (some .int)) (P : Int32 → RST → Prop) : ∀ (x1 : Int32) (x2 : Int32) (s0 : Int32) (r : Nat → Int32) (q : Nat → Nat → Int32), wp_X11_rating_40  P x1 x2 s0 r q → GW p l e rm_X11_rating s m args below meth c D A 4 0 0 (MQ below (va_Qi P (RE D T m0 a A) A) args s 0 0 A) (RW m0 a T r q) 0 0 40 [(0, .ref m0), (1, .int x1), (2, .int x2)] [.int s0, .ref m0] := by
  have hw : ∀ {w : Cond}, w ∈ W0 → w.before args s = true := fun h => C.2.2.2.2.1 _ (List.mem_cons_of_mem _ h)
  intro x1 x2 s0 r q h
  unfold wp_X11_rating_40 at h
  refine gr_put_6 C iwx_X11 (hw kw_1815) dX11_rating_40 ?_
  refine gr_nr (fun r8 er8 => ?_)
  replace h := h r8 er8
  refine g_aload_n C dX11_rating_43 rfl 0 rfl ?_
  refine gr_get C iwx_X11 6 (hw kw_1815) (by decide) rfl rfl dX11_rating_44 ?_
  refine g_if_le (tgt := 52) C dX11_rating_47 (by decide) (fun z9 => ?_) (fun z9 => ?_)
  · replace h := h.1 z9
    refine g_aload_n C dX11_rating_52 rfl 0 rfl ?_
    refine g_iload_n C dX11_rating_53 rfl 1 rfl ?_
    obtain ⟨g13, h⟩ := h
    refine gr_calliV C [.int x1] rfl (k_X11_totalOf l D T m0 a x1 r8 q g13) (w0_V 1 C.2.2.2.2.1 kw_2208 kw_2210 ks_93 kw_9 kw_2211 rfl rfl (by decide +kernel) ⟨by decide, by decide⟩) rfl (Nat.le_of_ble_eq_true rfl) (Nat.zero_le _) (Nat.zero_le _) dX11_rating_54 (fun v10 r11 q12 hp => ?_)
    replace h := h v10 r11 q12 hp
    refine g_pop C dX11_rating_57 rfl ?_
    refine g_aload_n C dX11_rating_58 rfl 0 rfl ?_
    refine gr_get C iwx_X11 0 (hw kw_1809) (by decide) rfl rfl dX11_rating_59 ?_
    refine g_aload_n C dX11_rating_62 rfl 0 rfl ?_
    refine gr_get C iwx_X11 18 (hw kw_1827) (by decide) rfl rfl dX11_rating_63 ?_
    refine g_aload_n C dX11_rating_66 rfl 0 rfl ?_
    refine gr_get C iwx_X11 19 (hw kw_1828) (by decide) rfl rfl dX11_rating_67 ?_
    refine g_aload_n C dX11_rating_70 rfl 0 rfl ?_
    refine gr_get C iwx_X11 7 (hw kw_1816) (by decide) rfl rfl dX11_rating_71 ?_
    refine gr_callSf C [.int (r11 18), .int (r11 19), .int (r11 7)] rfl (k_X11_breakAt l D T m0 a (r11 18) (r11 19) (r11 7) r11 q12) (w0_S 3 C.2.2.2.2.1 kw_2005 kw_2006 kw_9 kw_2007 rfl rfl (by decide +kernel) ⟨by decide, by decide⟩) rfl (Nat.le_of_ble_eq_true rfl) (Nat.zero_le _) (Nat.zero_le _) dX11_rating_74 ?_
    obtain ⟨g14, h⟩ := h
    refine gr_ald_0 C g14 dX11_rating_77 ?_
    refine g_topi (fun v15 ev15 => ?_)
    replace h := h v15 ev15
    refine g_istore_n (lv' := [(3, .int v15), (0, .ref m0), (1, .int x1), (2, .int x2)]) C dX11_rating_78 rfl (by decide) rfl ?_
    refine g_iload_n C dX11_rating_79 rfl 3 rfl ?_
    rcases Decidable.em (x2 = 0) with z16 | z16
    · refine g_tableIn (off := 52) (tgt := 132) C dX11_rating_80 (by rw [z16]; decide) (by rw [z16]; decide) (by rw [z16]; decide) (by decide) ?_
      replace h := h.1 z16
      refine g_aload_n C dX11_rating_132 rfl 1 rfl ?_
      refine gr_get C iwx_X11 24 (hw kw_1833) (by decide) rfl rfl dX11_rating_133 ?_
      exact gr_iret C hr dX11_rating_136 h
    replace h := h.2 z16
    rcases Decidable.em (x2 = 1) with z17 | z17
    · refine g_tableIn (off := 57) (tgt := 137) C dX11_rating_80 (by rw [z17]; decide) (by rw [z17]; decide) (by rw [z17]; decide) (by decide) ?_
      replace h := h.1 z17
      refine g_aload_n C dX11_rating_137 rfl 1 rfl ?_
      refine gr_get C iwx_X11 25 (hw kw_1834) (by decide) rfl rfl dX11_rating_138 ?_
      exact gr_iret C hr dX11_rating_141 h
    replace h := h.2 z17
    rcases Decidable.em (x2 = 2) with z18 | z18
    · refine g_tableIn (off := 62) (tgt := 142) C dX11_rating_80 (by rw [z18]; decide) (by rw [z18]; decide) (by rw [z18]; decide) (by decide) ?_
      replace h := h.1 z18
      refine g_aload_n C dX11_rating_142 rfl 1 rfl ?_
      refine gr_get C iwx_X11 26 (hw kw_1835) (by decide) rfl rfl dX11_rating_143 ?_
      exact gr_iret C hr dX11_rating_146 h
    replace h := h.2 z18
    rcases Decidable.em (x2 = 3) with z19 | z19
    · refine g_tableIn (off := 67) (tgt := 147) C dX11_rating_80 (by rw [z19]; decide) (by rw [z19]; decide) (by rw [z19]; decide) (by decide) ?_
      replace h := h.1 z19
      refine g_aload_n C dX11_rating_147 rfl 1 rfl ?_
      refine gr_get C iwx_X11 27 (hw kw_1836) (by decide) rfl rfl dX11_rating_148 ?_
      exact gr_iret C hr dX11_rating_151 h
    replace h := h.2 z19
    rcases Decidable.em (x2 = 4) with z20 | z20
    · refine g_tableIn (off := 72) (tgt := 152) C dX11_rating_80 (by rw [z20]; decide) (by rw [z20]; decide) (by rw [z20]; decide) (by decide) ?_
      replace h := h.1 z20
      refine g_aload_n C dX11_rating_152 rfl 1 rfl ?_
      refine gr_get C iwx_X11 20 (hw kw_1829) (by decide) rfl rfl dX11_rating_153 ?_
      exact gr_iret C hr dX11_rating_156 h
    replace h := h.2 z20
    rcases Decidable.em (x2 = 5) with z21 | z21
    · refine g_tableIn (off := 77) (tgt := 157) C dX11_rating_80 (by rw [z21]; decide) (by rw [z21]; decide) (by rw [z21]; decide) (by decide) ?_
      replace h := h.1 z21
      refine g_aload_n C dX11_rating_157 rfl 1 rfl ?_
      refine gr_get C iwx_X11 20 (hw kw_1829) (by decide) rfl rfl dX11_rating_158 ?_
      refine g_iload_n C dX11_rating_161 rfl 0 rfl ?_
      refine g_mmax C (hw kw_2025) (hw kw_626) (hw kw_18) (hw kw_627) (by decide) (Nat.le_of_ble_eq_true rfl) (Nat.zero_le _) (Nat.zero_le _) dX11_rating_162 ?_
      exact gr_iret C hr dX11_rating_165 h
    replace h := h.2 z21
    rcases Decidable.em (x2 = 6) with z22 | z22
    · refine g_tableIn (off := 86) (tgt := 166) C dX11_rating_80 (by rw [z22]; decide) (by rw [z22]; decide) (by rw [z22]; decide) (by decide) ?_
      replace h := h.1 z22
      refine g_iload_n C dX11_rating_166 rfl 0 rfl ?_
      exact gr_iret C hr dX11_rating_167 h
    replace h := h.2 z22
    rcases Decidable.em (x2 = 7) with z23 | z23
    · refine g_tableIn (off := 88) (tgt := 168) C dX11_rating_80 (by rw [z23]; decide) (by rw [z23]; decide) (by rw [z23]; decide) (by decide) ?_
      replace h := h.1 z23
      refine g_aload_n C dX11_rating_168 rfl 1 rfl ?_
      refine gr_get C iwx_X11 28 (hw kw_1837) (by decide) rfl rfl dX11_rating_169 ?_
      exact gr_iret C hr dX11_rating_172 h
    replace h := h.2 z23
    rcases Decidable.em (x2 = 8) with z24 | z24
    · refine g_tableIn (off := 93) (tgt := 173) C dX11_rating_80 (by rw [z24]; decide) (by rw [z24]; decide) (by rw [z24]; decide) (by decide) ?_
      replace h := h.1 z24
      refine g_aload_n C dX11_rating_173 rfl 1 rfl ?_
      refine gr_get C iwx_X11 19 (hw kw_1828) (by decide) rfl rfl dX11_rating_174 ?_
      exact gr_iret C hr dX11_rating_177 h
    replace h := h.2 z24
    refine g_tableD (tgt := 178) C dX11_rating_80 (by decide) (fun j hj => ?_) (by decide) ?_
    · rcases (show j = 0 ∨ j = 1 ∨ j = 2 ∨ j = 3 ∨ j = 4 ∨ j = 5 ∨ j = 6 ∨ j = 7 ∨ j = 8 by have hj2 : j < 9 := hj; omega) with rfl | rfl | rfl | rfl | rfl | rfl | rfl | rfl | rfl <;> first | exact Or.inr rfl | exact Or.inl (by first | exact lv_neT z16 rfl | exact lv_neT z17 rfl | exact lv_neT z18 rfl | exact lv_neT z19 rfl | exact lv_neT z20 rfl | exact lv_neT z21 rfl | exact lv_neT z22 rfl | exact lv_neT z23 rfl | exact lv_neT z24 rfl)
    refine g_aload_n C dX11_rating_178 rfl 1 rfl ?_
    refine gr_get C iwx_X11 18 (hw kw_1827) (by decide) rfl rfl dX11_rating_179 ?_
    exact gr_iret C hr dX11_rating_182 h
  · replace h := h.2 z9
    refine g_iconst (v := 0) C dX11_rating_50 (by decide) ?_
    exact gr_iret C hr dX11_rating_51 h
def wp_X11_rating (P : Int32 → RST → Prop) (p0 : Int32) (p1 : Int32) (r : Nat → Int32) (q : Nat → Nat → Int32) : Prop := (¬ (grpF (q 0) p0) = 0 → ((¬ (zin p1 0 9) = 0 → ((WF (q 0) ∧ gok (q 0) p0) ∧ (∀ (v3 : Int32) (r4 : Nat → Int32) (q5 : Nat → Nat → Int32), (v3 = nI (rsnD (q 0) (iv p0)).1 ∧ q5 = q ∧ kR r r4 [17, 18, 19, 20, 21, 22, 23] ∧ (¬ (rsnD (q 0) (iv p0)).1 = 0 → r4 17 = (rsnD (q 0) (iv p0)).2) ∧ ((rsnD (q 0) (iv p0)).1 = 0 → r4 18 = gvF (q 0) (iv p0) ∧ r4 19 = gzF (q 0) (iv p0) ∧ r4 20 = wtF (q 0) (iv (gvF (q 0) (iv p0))) (iv p0) ∧ r4 21 = pcF (q 0) (iv (gvF (q 0) (iv p0))) (iv p0) ∧ r4 22 = lgF (q 0) (iv (gvF (q 0) (iv p0))) (iv p0) ∧ r4 23 = hdF (q 0) (iv (gvF (q 0) (iv p0))) (iv p0))) → ((v3 ≤ 0 → (wp_X11_rating_40  P p0 p1 0 r4 q5)) ∧ (¬ v3 ≤ 0 → (wp_X11_rating_40  P p0 p1 3 r4 q5)))))) ∧ ((zin p1 0 9) = 0 → (wp_X11_rating_40  P p0 p1 2 r q)))) ∧ ((grpF (q 0) p0) = 0 → (wp_X11_rating_40  P p0 p1 1 r q))
set_option maxRecDepth 100000 in
set_option maxHeartbeats 4000000 in
theorem t_X11_rating {p : Program} {l : Launch} {e : Env} {s : State} {m : MethodId} {args : Array Value} {below : List Frame} {meth : Method} {c : Code} {D : va_G} {A : Nat → Prop} {T : Nat → ClassId} {m0 : Nat} {a : Nat → Nat} (C : GC p s m args meth c cX11_rating "FreightRaterModel" (ws_X11_rating) 4 D A (zty T)) (hr : meth.sig.returnType = (some .int)) (P : Int32 → RST → Prop) : ∀ (p0 : Int32) (p1 : Int32) (r : Nat → Int32) (q : Nat → Nat → Int32), wp_X11_rating P p0 p1 r q → GW p l e rm_X11_rating s m args below meth c D A 4 0 0 (MQ below (va_Qi P (RE D T m0 a A) A) args s 0 0 A) (RW m0 a T r q) 0 0 0 [(0, .ref m0), (1, .int p0), (2, .int p1)] [] := by
  have hw : ∀ {w : Cond}, w ∈ W0 → w.before args s = true := fun h => C.2.2.2.2.1 _ (List.mem_cons_of_mem _ h)
  intro p0 p1 r q h
  unfold wp_X11_rating at h
  refine g_aload_n C dX11_rating_0 rfl 0 rfl ?_
  refine g_aload_n C dX11_rating_1 rfl 0 rfl ?_
  refine g_iload_n C dX11_rating_2 rfl 1 rfl ?_
  refine gr_callVf C [.int p0] rfl (k_X11_isGroup l D T m0 a p0 r q) (w0_V 1 C.2.2.2.2.1 kw_2167 kw_2169 ks_85 kw_9 kw_2170 rfl rfl (by decide +kernel) ⟨by decide, by decide⟩) rfl (Nat.le_of_ble_eq_true rfl) (Nat.zero_le _) (Nat.zero_le _) dX11_rating_3 ?_
  refine g_if_ne (tgt := 13) C dX11_rating_6 (by decide) (fun z1 => ?_) (fun z1 => ?_)
  · replace h := h.1 z1
    refine g_iload_n C dX11_rating_13 rfl 2 rfl ?_
    refine g_iconst (v := 0) C dX11_rating_14 (by decide) ?_
    refine g_bipush (v := 9) C dX11_rating_15 (by decide) ?_
    refine gr_callSf C [.int p1, .int 0, .int 9] rfl (k_X11_in l D T m0 a p1 0 9 r q) (w0_S 3 C.2.2.2.2.1 kw_1944 kw_1945 kw_9 kw_1946 rfl rfl (by decide +kernel) ⟨by decide, by decide⟩) rfl (Nat.le_of_ble_eq_true rfl) (Nat.zero_le _) (Nat.zero_le _) dX11_rating_17 ?_
    refine g_if_ne (tgt := 27) C dX11_rating_20 (by decide) (fun z2 => ?_) (fun z2 => ?_)
    · replace h := h.1 z2
      refine g_aload_n C dX11_rating_27 rfl 0 rfl ?_
      refine g_iload_n C dX11_rating_28 rfl 1 rfl ?_
      obtain ⟨g6, h⟩ := h
      refine gr_calliV C [.int p0] rfl (k_X11_reasonOf l D T m0 a p0 r q g6) (w0_V 1 C.2.2.2.2.1 kw_2171 kw_2173 ks_86 kw_9 kw_2174 rfl rfl (by decide +kernel) ⟨by decide, by decide⟩) rfl (Nat.le_of_ble_eq_true rfl) (Nat.zero_le _) (Nat.zero_le _) dX11_rating_29 (fun v3 r4 q5 hp => ?_)
      replace h := h v3 r4 q5 hp
      refine g_if_le (tgt := 39) C dX11_rating_32 (by decide) (fun z7 => ?_) (fun z7 => ?_)
      · replace h := h.1 z7
        refine g_iconst (v := 0) C dX11_rating_39 (by decide) ?_
        refine g_locals [0, 1, 2] rfl ?_
        refine t_X11_rating_40 C hr  P  p0 p1 0 r4 q5 h
      · replace h := h.2 z7
        refine g_iconst (v := 3) C dX11_rating_35 (by decide) ?_
        refine g_goto (tgt := 40) C dX11_rating_36 (by decide) ?_
        refine g_locals [0, 1, 2] rfl ?_
        refine t_X11_rating_40 C hr  P  p0 p1 3 r4 q5 h
    · replace h := h.2 z2
      refine g_iconst (v := 2) C dX11_rating_23 (by decide) ?_
      refine g_goto (tgt := 40) C dX11_rating_24 (by decide) ?_
      refine g_locals [0, 1, 2] rfl ?_
      refine t_X11_rating_40 C hr  P  p0 p1 2 r q h
  · replace h := h.2 z1
    refine g_iconst (v := 1) C dX11_rating_9 (by decide) ?_
    refine g_goto (tgt := 40) C dX11_rating_10 (by decide) ?_
    refine g_locals [0, 1, 2] rfl ?_
    refine t_X11_rating_40 C hr  P  p0 p1 1 r q h
theorem c_X11_rating (l : Launch) (D : va_G) (T : Nat → ClassId) (m0 : Nat) (a : Nat → Nat) (p0 : Int32) (p1 : Int32) (r : Nat → Int32) (q : Nat → Nat → Int32) (P : Int32 → RST → Prop) (h : wp_X11_rating P p0 p1 r q) : RMi l yX11_rating (ws_X11_rating) rm_X11_rating D T m0 a [.ref m0, .int p0, .int p1] r q P := gr_meti (by decide) rfl rfl (Nat.le_of_ble_eq_true rfl) (fun p e s m args below meth c A C hr => t_X11_rating C hr P p0 p1 r q h)
theorem w_rating40 {P : Int32 → RST → Prop} {r : Nat → Int32} {q : Nat → Nat → Int32} {p0 w s0 : Int32} (hP : ∀ (v : Int32) (r1 : Nat → Int32), kR r r1 SC → r1 6 = s0 → (s0 = 0 → v = raF (q 0) (iv p0) w) → P v (r1, q)) (hs : s0 = 0 → WF (q 0) ∧ gok (q 0) p0 ∧ (rsnD (q 0) (iv p0)).1 = 0 ∧ (r 18 = gvF (q 0) (iv p0) ∧ r 19 = gzF (q 0) (iv p0) ∧ r 20 = wtF (q 0) (iv (gvF (q 0) (iv p0))) (iv p0) ∧ r 21 = pcF (q 0) (iv (gvF (q 0) (iv p0))) (iv p0) ∧ r 22 = lgF (q 0) (iv (gvF (q 0) (iv p0))) (iv p0) ∧ r 23 = hdF (q 0) (iv (gvF (q 0) (iv p0))) (iv p0))) (h2 : s0 = 0 ∨ s0 = 1 ∨ s0 = 2 ∨ s0 = 3) : wp_X11_rating_40 P p0 w s0 r q := by
  unfold wp_X11_rating_40
  intro r8 e8
  have e86 : r8 6 = s0 := by rw [e8, va_up_self]
  have k8 : kR r r8 SC := by rw [e8]; exact kR.rf.up (by decide) _
  rw [e86]
  refine ⟨fun c => ?_, fun c => hP _ _ k8 e86 (fun z => absurd (by rw [z]; decide) c)⟩
  have s00 : s0 = 0 := by rcases h2 with h | h | h | h <;> subst h <;> first | rfl | exact absurd c (by decide)
  obtain ⟨hw, hg, c3, b18, b19, b20, b21, b22, b23⟩ := hs s00
  obtain ⟨n, ns, a1, hns, a3, hn, en⟩ := id hg
  have hp := p2_le hns
  have ein : iv p0 = n := by rw [en]; exact nI_clamp (by omega)
  have hr0 := rsn0 (g := iv p0) hw (by rw [ein, ← en]; exact hg) (by omega) c3
  have f18 : r8 18 = gvF (q 0) (iv p0) := by rw [e8, va_up_ne _ _ (by decide), b18]
  have f19 : r8 19 = gzF (q 0) (iv p0) := by rw [e8, va_up_ne _ _ (by decide), b19]
  have f20 : r8 20 = wtF (q 0) (iv (gvF (q 0) (iv p0))) (iv p0) := by rw [e8, va_up_ne _ _ (by decide), b20]
  have f21 : r8 21 = pcF (q 0) (iv (gvF (q 0) (iv p0))) (iv p0) := by rw [e8, va_up_ne _ _ (by decide), b21]
  have f22 : r8 22 = lgF (q 0) (iv (gvF (q 0) (iv p0))) (iv p0) := by rw [e8, va_up_ne _ _ (by decide), b22]
  have f23 : r8 23 = hdF (q 0) (iv (gvF (q 0) (iv p0))) (iv p0) := by rw [e8, va_up_ne _ _ (by decide), b23]
  rw [f18, f19, f20, f21, f22, f23]
  refine ⟨⟨hw, hg.gix.1, hr0.1.x, hr0.2.1⟩, fun v10 r11 q12 hh => ?_⟩
  obtain ⟨d1, d2, d3, d7, d24, d25, d26, d27, d28⟩ := hh
  subst d2
  have g18 : r11 18 = gvF (q12 0) (iv p0) := (d3 18 (by decide)).trans f18
  have g19 : r11 19 = gzF (q12 0) (iv p0) := (d3 19 (by decide)).trans f19
  have g20 : r11 20 = wtF (q12 0) (iv (gvF (q12 0) (iv p0))) (iv p0) := (d3 20 (by decide)).trans f20
  obtain ⟨n0, v, _, h6, hv, ev⟩ := id hr0.1
  obtain ⟨z, hz1, hz9, ez⟩ := id hr0.2.1
  have evv : iv (gvF (q12 0) (iv p0)) = v := by rw [ev]; exact nI_clamp (by omega)
  have ezz : iv (gzF (q12 0) (iv p0)) = z := by rw [ez]; exact nI_clamp (by omega)
  have hc5 := chpF_lt hw (v := v) (z := z) (w := wtF (q12 0) v (iv p0)) (by omega) hz1 hz9
  have ei : 274 + 510 * (r11 18) + 47 + 10 * ((r11 19) - 1) + 2 * (r11 7) = nI (274 + 510 * v + 47 + 10 * (z - 1) + 2 * chpF (q12 0) v z (wtF (q12 0) v (iv p0))) := by
    rw [g18, g19, d7, evv, ezz, ev, ez]
    simp (disch := omega) only [li_2, li_3, li_4, li_5, li_6, li_7, li_8, li_9, li_10, li_12, li_14, li_20, li_26, li_30, li_31, li_36, li_38, li_47, li_48, li_50, li_57, li_58, li_80, li_98, li_99, li_100, li_102, li_104, li_105, li_108, li_109, li_110, li_114, li_115, li_119, li_122, li_137, li_146, li_147, li_148, li_149, li_150, li_200, li_255, li_256, li_274, li_510, li_512, li_640, li_999, li_1000, li_1024, li_3334, li_5000, li_9999, li_10000, li_23338, li_26672, li_30000, li_99999, li_150000, li_300000, pk_mul, nI_add, pk_sub, nI_clamp, nI_1, nI_p1, nI_a0, nI_0a, nI_m0, nI_m1, cl_0, cl_1, z01, z11]
  rw [ei]
  simp (disch := omega) only [li_2, li_3, li_4, li_5, li_6, li_7, li_8, li_9, li_10, li_12, li_14, li_20, li_26, li_30, li_31, li_36, li_38, li_47, li_48, li_50, li_57, li_58, li_80, li_98, li_99, li_100, li_102, li_104, li_105, li_108, li_109, li_110, li_114, li_115, li_119, li_122, li_137, li_146, li_147, li_148, li_149, li_150, li_200, li_255, li_256, li_274, li_510, li_512, li_640, li_999, li_1000, li_1024, li_3334, li_5000, li_9999, li_10000, li_23338, li_26672, li_30000, li_99999, li_150000, li_300000, pk_mul, nI_add, pk_sub, nI_clamp, nI_1, nI_p1, nI_a0, nI_0a, nI_m0, nI_m1, cl_0, cl_1, z01, z11, nI_leI, nI_ltI, nI_eq, nz_lt0, nz_le, nz_eq0, nz_pos, nz_le0, nz_eq1, nz_lt1, nz_ge1, nz_le1, nz_gt1, nz_vp, nz_vp0, nz_vp1, six_nI, vix_nI, bix_nI, pix_nI, fix_nI, gix_nI, rix_nI, zix_nI, pix_0, pix_1, bix_0, fix_0, fix_1, rix_1, true_and, and_true]
  refine ⟨by omega, fun v15 e15 => ?_⟩
  have K : kR r r11 SC := k8.tr d3 (fun _ h => h) (by decide)
  have K6 : r11 6 = s0 := (d3 6 (by decide)).trans e86
  have fin : ∀ x : Int32, x = raF (q12 0) (iv p0) w → P x (r11, q12) := fun x hx => hP x r11 K K6 (fun _ => hx)
  unfold raF at fin
  simp only [evv, ezz] at fin d24 d25 d26 d27 d28 g20
  rw [← e15] at fin
  refine ⟨fun c0 => fin _ (by rw [if_pos c0]; exact d24), fun c0 => ?_⟩
  refine ⟨fun c1 => fin _ (by rw [if_neg c0, if_pos c1]; exact d25), fun c1 => ?_⟩
  refine ⟨fun c2 => fin _ (by rw [if_neg c0, if_neg c1, if_pos (show w = 2 from c2)]; exact d26), fun c2 => ?_⟩
  refine ⟨fun c4 => fin _ (by rw [if_neg c0, if_neg c1, if_neg (show ¬ w = 2 from c2), if_pos (show w = 3 from c4)]; exact d27), fun c4 => ?_⟩
  refine ⟨fun c5 => fin _ (by rw [if_neg c0, if_neg c1, if_neg (show ¬ w = 2 from c2), if_neg (show ¬ w = 3 from c4), if_pos (show w = 4 from c5)]; exact g20), fun c5 => ?_⟩
  refine ⟨fun c6 => fin _ (by rw [if_neg c0, if_neg c1, if_neg (show ¬ w = 2 from c2), if_neg (show ¬ w = 3 from c4), if_neg (show ¬ w = 4 from c5), if_pos (show w = 5 from c6), g20]; rfl), fun c6 => ?_⟩
  refine ⟨fun c7 => fin _ (by rw [if_neg c0, if_neg c1, if_neg (show ¬ w = 2 from c2), if_neg (show ¬ w = 3 from c4), if_neg (show ¬ w = 4 from c5), if_neg (show ¬ w = 5 from c6), if_pos (show w = 6 from c7)]), fun c7 => ?_⟩
  refine ⟨fun c8 => fin _ (by rw [if_neg c0, if_neg c1, if_neg (show ¬ w = 2 from c2), if_neg (show ¬ w = 3 from c4), if_neg (show ¬ w = 4 from c5), if_neg (show ¬ w = 5 from c6), if_neg (show ¬ w = 6 from c7), if_pos (show w = 7 from c8)]; exact d28), fun c8 => ?_⟩
  refine ⟨fun c9 => fin _ (by rw [if_neg c0, if_neg c1, if_neg (show ¬ w = 2 from c2), if_neg (show ¬ w = 3 from c4), if_neg (show ¬ w = 4 from c5), if_neg (show ¬ w = 5 from c6), if_neg (show ¬ w = 6 from c7), if_neg (show ¬ w = 7 from c8), if_pos (show w = 8 from c9)]; exact g19), fun c9 => fin _ (by rw [if_neg c0, if_neg c1, if_neg (show ¬ w = 2 from c2), if_neg (show ¬ w = 3 from c4), if_neg (show ¬ w = 4 from c5), if_neg (show ¬ w = 5 from c6), if_neg (show ¬ w = 6 from c7), if_neg (show ¬ w = 7 from c8), if_neg (show ¬ w = 8 from c9)]; exact g18)⟩
theorem k_X11_rating (l : Launch) (D : va_G) (T : Nat → ClassId) (m0 : Nat) (a : Nat → Nat) (p0 : Int32) (p1 : Int32) (r : Nat → Int32) (q : Nat → Nat → Int32) (h : WF (q 0)) : RMi l yX11_rating (ws_X11_rating) rm_X11_rating D T m0 a [.ref m0, .int p0, .int p1] r q (fun v u => (u.2 = q ∧ kR r u.1 SC ∧ u.1 6 = ratC (q 0) p0 p1 ∧ (ratC (q 0) p0 p1 = 0 → v = raF (q 0) (iv p0) p1))) := c_X11_rating l D T m0 a p0 p1 r q _ <|
  (by
    unfold wp_X11_rating ratC
    refine ⟨fun c => ⟨fun c2 => ⟨⟨h, grp_gok h c⟩, fun v3 r4 q5 hh => ?_⟩, fun c2 => ?_⟩, fun c => ?_⟩
    · obtain ⟨a1, a2, a3, a4, a5⟩ := hh
      subst a2 a1
      rw [if_neg c, if_neg c2]
      have h8 := rsnD_8 (μ := q5 0) (g := iv p0)
      refine ⟨fun c3 => ?_, fun c3 => ?_⟩
      · have c4 := (nI_le0 (by omega)).mp c3
        rw [if_pos c4]
        exact w_rating40 (fun v r1 k k6 kv => ⟨rfl, (a3.mn (by decide)).tr k (fun _ h => h) (fun _ h => h), k6, kv⟩) (fun _ => ⟨h, grp_gok h c, c4, a5 c4⟩) (Or.inl rfl)
      · have c4 : ¬ (rsnD (q5 0) (iv p0)).1 = 0 := fun z => c3 (by rw [z]; decide)
        rw [if_neg c4]
        exact w_rating40 (fun v r1 k k6 kv => ⟨rfl, (a3.mn (by decide)).tr k (fun _ h => h) (fun _ h => h), k6, kv⟩) (fun z => absurd z (by decide)) (Or.inr (Or.inr (Or.inr rfl)))
    · rw [if_neg c, if_pos c2]
      exact w_rating40 (fun v r1 k k6 kv => ⟨rfl, k, k6, kv⟩) (fun z => absurd z (by decide)) (Or.inr (Or.inr (Or.inl rfl)))
    · rw [if_pos c]
      exact w_rating40 (fun v r1 k k6 kv => ⟨rfl, k, k6, kv⟩) (fun z => absurd z (by decide)) (Or.inr (Or.inl rfl)))
abbrev ws_X11_lacks : List Cond := Cond.code yX11_lacks cX11_lacks 3 (some .int) :: W0
abbrev rm_X11_lacks : Room := ({ frames := 1, cells := 0, slots := 0, locals := 22 } : Room)
def wp_X11_lacks (P : Int32 → RST → Prop) (p0 : Int32) (p1 : Int32) (r : Nat → Int32) (q : Nat → Nat → Int32) : Prop := ∀ r1 : Nat → Int32, r1 = va_up r 35 0 → ((¬ (grpF (q 0) p0) = 0 → ((gix p0) ∧ (((nI (popN (iv p0))) ≤ p1 → (P 0 (r1, q))) ∧ (¬ (nI (popN (iv p0))) ≤ p1 → (P 2 (r1, q)))))) ∧ ((grpF (q 0) p0) = 0 → (P 1 (r1, q))))
set_option maxRecDepth 100000 in
set_option maxHeartbeats 4000000 in
theorem t_X11_lacks {p : Program} {l : Launch} {e : Env} {s : State} {m : MethodId} {args : Array Value} {below : List Frame} {meth : Method} {c : Code} {D : va_G} {A : Nat → Prop} {T : Nat → ClassId} {m0 : Nat} {a : Nat → Nat} (C : GC p s m args meth c cX11_lacks "FreightRaterModel" (ws_X11_lacks) 3 D A (zty T)) (hr : meth.sig.returnType = (some .int)) (P : Int32 → RST → Prop) : ∀ (p0 : Int32) (p1 : Int32) (r : Nat → Int32) (q : Nat → Nat → Int32), wp_X11_lacks P p0 p1 r q → GW p l e rm_X11_lacks s m args below meth c D A 3 0 0 (MQ below (va_Qi P (RE D T m0 a A) A) args s 0 0 A) (RW m0 a T r q) 0 0 0 [(0, .ref m0), (1, .int p0), (2, .int p1)] [] := by
  have hw : ∀ {w : Cond}, w ∈ W0 → w.before args s = true := fun h => C.2.2.2.2.1 _ (List.mem_cons_of_mem _ h)
  intro p0 p1 r q h
  unfold wp_X11_lacks at h
  refine g_aload_n C dX11_lacks_0 rfl 0 rfl ?_
  refine g_iconst (v := 0) C dX11_lacks_1 (by decide) ?_
  refine gr_put_35 C iwx_X11 (hw kw_1844) dX11_lacks_2 ?_
  refine gr_nr (fun r1 er1 => ?_)
  replace h := h r1 er1
  refine g_aload_n C dX11_lacks_5 rfl 0 rfl ?_
  refine g_iload_n C dX11_lacks_6 rfl 1 rfl ?_
  refine gr_callVf C [.int p0] rfl (k_X11_isGroup l D T m0 a p0 r1 q) (w0_V 1 C.2.2.2.2.1 kw_2167 kw_2169 ks_85 kw_9 kw_2170 rfl rfl (by decide +kernel) ⟨by decide, by decide⟩) rfl (Nat.le_of_ble_eq_true rfl) (Nat.zero_le _) (Nat.zero_le _) dX11_lacks_7 ?_
  refine g_if_ne (tgt := 15) C dX11_lacks_10 (by decide) (fun z2 => ?_) (fun z2 => ?_)
  · replace h := h.1 z2
    refine g_iload_n C dX11_lacks_15 rfl 1 rfl ?_
    obtain ⟨g3, h⟩ := h
    refine gr_callSf C [.int p0] rfl (k_X11_ones l D T m0 a p0 r1 q g3) (w0_S 1 C.2.2.2.2.1 kw_2201 kw_2202 kw_9 kw_2203 rfl rfl (by decide +kernel) ⟨by decide, by decide⟩) rfl (Nat.le_of_ble_eq_true rfl) (Nat.zero_le _) (Nat.zero_le _) dX11_lacks_16 ?_
    refine g_iload_n C dX11_lacks_19 rfl 2 rfl ?_
    refine g_icmp_le (tgt := 27) C dX11_lacks_20 (by decide) (fun z4 => ?_) (fun z4 => ?_)
    · replace h := h.1 z4
      refine g_iconst (v := 0) C dX11_lacks_27 (by decide) ?_
      exact gr_iret C hr dX11_lacks_28 h
    · replace h := h.2 z4
      refine g_iconst (v := 2) C dX11_lacks_23 (by decide) ?_
      refine g_goto (tgt := 28) C dX11_lacks_24 (by decide) ?_
      exact gr_iret C hr dX11_lacks_28 h
  · replace h := h.2 z2
    refine g_iconst (v := 1) C dX11_lacks_13 (by decide) ?_
    exact gr_iret C hr dX11_lacks_14 h
theorem c_X11_lacks (l : Launch) (D : va_G) (T : Nat → ClassId) (m0 : Nat) (a : Nat → Nat) (p0 : Int32) (p1 : Int32) (r : Nat → Int32) (q : Nat → Nat → Int32) (P : Int32 → RST → Prop) (h : wp_X11_lacks P p0 p1 r q) : RMi l yX11_lacks (ws_X11_lacks) rm_X11_lacks D T m0 a [.ref m0, .int p0, .int p1] r q P := gr_meti (by decide) rfl rfl (Nat.le_of_ble_eq_true rfl) (fun p e s m args below meth c A C hr => t_X11_lacks C hr P p0 p1 r q h)
theorem k_X11_lacks (l : Launch) (D : va_G) (T : Nat → ClassId) (m0 : Nat) (a : Nat → Nat) (p0 : Int32) (p1 : Int32) (r : Nat → Int32) (q : Nat → Nat → Int32) (h : WF (q 0) ∧ rix p1) : RMi l yX11_lacks (ws_X11_lacks) rm_X11_lacks D T m0 a [.ref m0, .int p0, .int p1] r q (fun v u => (v = lckF (q 0) p0 (iv p1) ∧ u.1 = va_up r 35 0 ∧ u.2 = q)) := c_X11_lacks l D T m0 a p0 p1 r q _ <|
  (by
    obtain ⟨hw, ⟨m, hm, rfl⟩⟩ := h
    unfold wp_X11_lacks lckF
    intro r1 e1
    refine ⟨fun c => ?_, fun c => ⟨by rw [if_pos c], e1, rfl⟩⟩
    have hg := grp_gok hw c
    obtain ⟨n, ns, _, hns, _, hn, en⟩ := id hg
    have hp := p2_le hns
    have pl := (ones_pop (n := n) (by omega)).2
    rw [if_neg c, en, show iv (nI n) = n from nI_clamp (by omega), show iv (nI m) = m from nI_clamp (by omega)]
    rw [en] at hg
    refine ⟨hg.gix.1, fun c2 => ⟨?_, e1, rfl⟩, fun c2 => ⟨?_, e1, rfl⟩⟩
    · have := (nI_leI (by omega) (by omega)).mp c2
      rw [if_neg (by omega)]
    · have := mt (nI_leI (by omega) (by omega)).mpr c2
      rw [if_pos (by omega)])
abbrev ws_X11_hasRefused : List Cond := Cond.code yX11_hasRefused cX11_hasRefused 3 (some .boolean) :: W0
abbrev rm_X11_hasRefused : Room := ({ frames := 6, cells := 0, slots := 0, locals := 139 } : Room)
def wb_X11_hasRefused_2 (rec : Int32 → Int32 → (Nat → Int32) → (Nat → Nat → Int32) → Prop) (P : Int32 → RST → Prop) (x1 : Int32) (x2 : Int32) (r : Nat → Int32) (q : Nat → Nat → Int32) : Prop := vp_in 1 3334 ∧ (((q 0 (Int32.toNatClampNeg 1)) ≤ x2 → (P 0 (r, q))) ∧ (¬ (q 0 (Int32.toNatClampNeg 1)) ≤ x2 → (((hasF x1 x2) = 0 → (∀ v4 : Int32, v4 = x2 + 1 → (rec x1 v4 r q))) ∧ (¬ (hasF x1 x2) = 0 → ((WF (q 0) ∧ gok (q 0) (1 <<< (x2 &&& 31))) ∧ (∀ (v5 : Int32) (r6 : Nat → Int32) (q7 : Nat → Nat → Int32), (v5 = nI (rsnD (q 0) (iv (1 <<< (x2 &&& 31)))).1 ∧ q7 = q ∧ kR r r6 [17, 18, 19, 20, 21, 22, 23] ∧ (¬ (rsnD (q 0) (iv (1 <<< (x2 &&& 31)))).1 = 0 → r6 17 = (rsnD (q 0) (iv (1 <<< (x2 &&& 31)))).2) ∧ ((rsnD (q 0) (iv (1 <<< (x2 &&& 31)))).1 = 0 → r6 18 = gvF (q 0) (iv (1 <<< (x2 &&& 31))) ∧ r6 19 = gzF (q 0) (iv (1 <<< (x2 &&& 31))) ∧ r6 20 = wtF (q 0) (iv (gvF (q 0) (iv (1 <<< (x2 &&& 31))))) (iv (1 <<< (x2 &&& 31))) ∧ r6 21 = pcF (q 0) (iv (gvF (q 0) (iv (1 <<< (x2 &&& 31))))) (iv (1 <<< (x2 &&& 31))) ∧ r6 22 = lgF (q 0) (iv (gvF (q 0) (iv (1 <<< (x2 &&& 31))))) (iv (1 <<< (x2 &&& 31))) ∧ r6 23 = hdF (q 0) (iv (gvF (q 0) (iv (1 <<< (x2 &&& 31))))) (iv (1 <<< (x2 &&& 31))))) → (∀ r9 : Nat → Int32, r9 = va_up r6 35 v5 → (((r9 35) ≤ 0 → (∀ v11 : Int32, v11 = x2 + 1 → (rec x1 v11 r9 q7))) ∧ (¬ (r9 35) ≤ 0 → (P 1 (r9, q7)))))))))))
def wp_X11_hasRefused_2 (P : Int32 → RST → Prop) : Nat → Int32 → Int32 → (Nat → Int32) → (Nat → Nat → Int32) → Prop
  | 0 => fun _ _ _ _ => False
  | n + 1 => fun x1 x2 r q => wb_X11_hasRefused_2 (wp_X11_hasRefused_2  P n)  P x1 x2 r q
set_option maxRecDepth 100000 in
set_option maxHeartbeats 4000000 in
theorem t_X11_hasRefused_2 {p : Program} {l : Launch} {e : Env} {s : State} {m : MethodId} {args : Array Value} {below : List Frame} {meth : Method} {c : Code} {D : va_G} {A : Nat → Prop} {T : Nat → ClassId} {m0 : Nat} {a : Nat → Nat} (C : GC p s m args meth c cX11_hasRefused "FreightRaterModel" (ws_X11_hasRefused) 3 D A (zty T)) (hr : meth.sig.returnType = (some .boolean)) (P : Int32 → RST → Prop) : ∀ (n : Nat) (x1 : Int32) (x2 : Int32) (r : Nat → Int32) (q : Nat → Nat → Int32), wp_X11_hasRefused_2  P n x1 x2 r q → GW p l e rm_X11_hasRefused s m args below meth c D A 3 0 0 (MQ below (va_Qi P (RE D T m0 a A) A) args s 0 0 A) (RW m0 a T r q) 0 0 2 [(0, .ref m0), (1, .int x1), (2, .int x2)] [] := by
  have hw : ∀ {w : Cond}, w ∈ W0 → w.before args s = true := fun h => C.2.2.2.2.1 _ (List.mem_cons_of_mem _ h)
  intro n
  induction n with
  | zero => intro x1 x2 r q h; exact h.elim
  | succ n ih =>
    intro x1 x2 r q h
    replace h : wb_X11_hasRefused_2 (wp_X11_hasRefused_2  P n)  P x1 x2 r q := h
    unfold wb_X11_hasRefused_2 at h
    refine g_iload_n C dX11_hasRefused_2 rfl 2 rfl ?_
    refine g_aload_n C dX11_hasRefused_3 rfl 0 rfl ?_
    refine gr_get C iwx_X11 0 (hw kw_1809) (by decide) rfl rfl dX11_hasRefused_4 ?_
    refine g_iconst (v := 1) C dX11_hasRefused_7 (by decide) ?_
    obtain ⟨g1, h⟩ := h
    refine gr_ald_0 C g1 dX11_hasRefused_8 ?_
    refine g_icmp_ge (tgt := 46) C dX11_hasRefused_9 (by decide) (fun z2 => ?_) (fun z2 => ?_)
    · replace h := h.1 z2
      refine g_iconst (v := 0) C dX11_hasRefused_46 (by decide) ?_
      exact gr_zret C hr vz0 dX11_hasRefused_47 h
    · replace h := h.2 z2
      refine g_iload_n C dX11_hasRefused_12 rfl 1 rfl ?_
      refine g_iload_n C dX11_hasRefused_13 rfl 2 rfl ?_
      refine gr_callSf C [.int x1, .int x2] rfl (k_X11_has l D T m0 a x1 x2 r q) (w0_S 2 C.2.2.2.2.1 kw_2178 kw_2179 kw_9 kw_2180 rfl rfl (by decide +kernel) ⟨by decide, by decide⟩) rfl (Nat.le_of_ble_eq_true rfl) (Nat.zero_le _) (Nat.zero_le _) dX11_hasRefused_14 ?_
      refine g_if_eq (tgt := 40) C dX11_hasRefused_17 (by decide) (fun z3 => ?_) (fun z3 => ?_)
      · replace h := h.1 z3
        obtain ⟨v4, ev4⟩ : ∃ y : Int32, y = x2 + 1 := ⟨_, rfl⟩
        replace h := h v4 ev4
        refine g_iinc (v := v4) (lv' := [(2, .int v4), (0, .ref m0), (1, .int x1)]) C dX11_hasRefused_40 (j := 2) rfl (by rw [ev4]; rfl) (by decide) rfl ?_
        refine g_goto (tgt := 2) C dX11_hasRefused_43 (by decide) ?_
        refine g_locals [1, 2, 0] rfl ?_
        exact ih x1 v4 r q h
      · replace h := h.2 z3
        refine g_aload_n C dX11_hasRefused_20 rfl 0 rfl ?_
        refine g_aload_n C dX11_hasRefused_21 rfl 0 rfl ?_
        refine g_iconst (v := 1) C dX11_hasRefused_22 (by decide) ?_
        refine g_iload_n C dX11_hasRefused_23 rfl 2 rfl ?_
        refine g_ishl C dX11_hasRefused_24 ?_
        obtain ⟨g8, h⟩ := h
        refine gr_calliV C [.int (1 <<< (x2 &&& 31))] rfl (k_X11_reasonOf l D T m0 a (1 <<< (x2 &&& 31)) r q g8) (w0_V 1 C.2.2.2.2.1 kw_2171 kw_2173 ks_86 kw_9 kw_2174 rfl rfl (by decide +kernel) ⟨by decide, by decide⟩) rfl (Nat.le_of_ble_eq_true rfl) (Nat.zero_le _) (Nat.zero_le _) dX11_hasRefused_25 (fun v5 r6 q7 hp => ?_)
        replace h := h v5 r6 q7 hp
        refine gr_put_35 C iwx_X11 (hw kw_1844) dX11_hasRefused_28 ?_
        refine gr_nr (fun r9 er9 => ?_)
        replace h := h r9 er9
        refine g_aload_n C dX11_hasRefused_31 rfl 0 rfl ?_
        refine gr_get C iwx_X11 35 (hw kw_1844) (by decide) rfl rfl dX11_hasRefused_32 ?_
        refine g_if_le (tgt := 40) C dX11_hasRefused_35 (by decide) (fun z10 => ?_) (fun z10 => ?_)
        · replace h := h.1 z10
          obtain ⟨v11, ev11⟩ : ∃ y : Int32, y = x2 + 1 := ⟨_, rfl⟩
          replace h := h v11 ev11
          refine g_iinc (v := v11) (lv' := [(2, .int v11), (0, .ref m0), (1, .int x1)]) C dX11_hasRefused_40 (j := 2) rfl (by rw [ev11]; rfl) (by decide) rfl ?_
          refine g_goto (tgt := 2) C dX11_hasRefused_43 (by decide) ?_
          refine g_locals [1, 2, 0] rfl ?_
          exact ih x1 v11 r9 q7 h
        · replace h := h.2 z10
          refine g_iconst (v := 1) C dX11_hasRefused_38 (by decide) ?_
          exact gr_zret C hr vz1 dX11_hasRefused_39 h
def wp_X11_hasRefused (P : Int32 → RST → Prop) (p0 : Int32) (r : Nat → Int32) (q : Nat → Nat → Int32) : Prop := ∃ k12 : Nat, wp_X11_hasRefused_2  P k12 p0 0 r q
set_option maxRecDepth 100000 in
set_option maxHeartbeats 4000000 in
theorem t_X11_hasRefused {p : Program} {l : Launch} {e : Env} {s : State} {m : MethodId} {args : Array Value} {below : List Frame} {meth : Method} {c : Code} {D : va_G} {A : Nat → Prop} {T : Nat → ClassId} {m0 : Nat} {a : Nat → Nat} (C : GC p s m args meth c cX11_hasRefused "FreightRaterModel" (ws_X11_hasRefused) 3 D A (zty T)) (hr : meth.sig.returnType = (some .boolean)) (P : Int32 → RST → Prop) : ∀ (p0 : Int32) (r : Nat → Int32) (q : Nat → Nat → Int32), wp_X11_hasRefused P p0 r q → GW p l e rm_X11_hasRefused s m args below meth c D A 3 0 0 (MQ below (va_Qi P (RE D T m0 a A) A) args s 0 0 A) (RW m0 a T r q) 0 0 0 [(0, .ref m0), (1, .int p0)] [] := by
  have hw : ∀ {w : Cond}, w ∈ W0 → w.before args s = true := fun h => C.2.2.2.2.1 _ (List.mem_cons_of_mem _ h)
  intro p0 r q h
  unfold wp_X11_hasRefused at h
  refine g_iconst (v := 0) C dX11_hasRefused_0 (by decide) ?_
  refine g_istore_n (lv' := [(2, .int 0), (0, .ref m0), (1, .int p0)]) C dX11_hasRefused_1 rfl (by decide) rfl ?_
  refine g_locals [1, 2, 0] rfl ?_
  obtain ⟨k12, h⟩ := h
  refine t_X11_hasRefused_2 C hr  P  k12 p0 0 r q h
theorem c_X11_hasRefused (l : Launch) (D : va_G) (T : Nat → ClassId) (m0 : Nat) (a : Nat → Nat) (p0 : Int32) (r : Nat → Int32) (q : Nat → Nat → Int32) (P : Int32 → RST → Prop) (h : wp_X11_hasRefused P p0 r q) : RMi l yX11_hasRefused (ws_X11_hasRefused) rm_X11_hasRefused D T m0 a [.ref m0, .int p0] r q P := gr_meti (by decide) rfl rfl (Nat.le_of_ble_eq_true rfl) (fun p e s m args below meth c A C hr => t_X11_hasRefused C hr P p0 r q h)
theorem rl_hasRefused {P : Int32 → RST → Prop} {r : Nat → Int32} {q : Nat → Nat → Int32} {n ns : Nat} (hw : WF (q 0)) (hn : n < 1024) (hns : ns ≤ 10) (hm : q 0 1 = nI ns) : ∀ (k s fuel : Nat) (r' : Nat → Int32), s + k = ns → k < fuel → kR r r' [17, 18, 19, 20, 21, 22, 23, 35] → (∀ r1 : Nat → Int32, kR r r1 [17, 18, 19, 20, 21, 22, 23, 35] → (∀ s', rfFold (q 0) n k s = some s' → r1 35 = nI (rsnD (q 0) (2 ^ s')).1 ∧ r1 17 = (rsnD (q 0) (2 ^ s')).2) → P (match rfFold (q 0) n k s with | none => 0 | some _ => 1) (r1, q)) → wp_X11_hasRefused_2 P fuel (nI n) (nI s) r' q := by
  intro k
  induction k with
  | zero =>
    intro s fuel r' hs hf hk hp
    obtain ⟨f, rfl⟩ : ∃ f, fuel = f + 1 := ⟨fuel - 1, by omega⟩; rw [wp_X11_hasRefused_2]; unfold wb_X11_hasRefused_2; dsimp only
    simp (disch := omega) only [hm, li_2, li_3, li_4, li_5, li_6, li_7, li_8, li_9, li_10, li_12, li_14, li_20, li_26, li_30, li_31, li_36, li_38, li_47, li_48, li_50, li_57, li_58, li_80, li_98, li_99, li_100, li_102, li_104, li_105, li_108, li_109, li_110, li_114, li_115, li_119, li_122, li_137, li_146, li_147, li_148, li_149, li_150, li_200, li_255, li_256, li_274, li_510, li_512, li_640, li_999, li_1000, li_1024, li_3334, li_5000, li_9999, li_10000, li_23338, li_26672, li_30000, li_99999, li_150000, li_300000, pk_mul, nI_add, pk_sub, nI_clamp, nI_1, nI_p1, nI_a0, nI_0a, nI_m0, nI_m1, cl_0, cl_1, z01, z11, nI_leI, nI_ltI, nI_eq, nz_lt0, nz_le, nz_eq0, nz_pos, nz_le0, nz_eq1, nz_lt1, nz_ge1, nz_le1, nz_gt1, nz_vp, nz_vp0, nz_vp1, six_nI, vix_nI, bix_nI, pix_nI, fix_nI, gix_nI, rix_nI, zix_nI, pix_0, pix_1, bix_0, fix_0, fix_1, rix_1, true_and, and_true]
    exact ⟨by omega, fun _ => hp r' hk (fun _ z => by cases z), fun h => absurd (by omega) h⟩
  | succ k ih =>
    intro s fuel r' hs hf hk hp
    obtain ⟨f, rfl⟩ : ∃ f, fuel = f + 1 := ⟨fuel - 1, by omega⟩; rw [wp_X11_hasRefused_2]; unfold wb_X11_hasRefused_2; dsimp only
    have hh := has_0 (n := n) (s := s) hn (by omega)
    have h2 : 2 ^ s < 2 ^ ns := Nat.pow_lt_pow_right (by decide) (by omega)
    have hp2 := p2_le hns
    have e2 : iv (nI (2 ^ s)) = 2 ^ s := nI_clamp (by omega)
    rw [rfFold] at hp
    have hsh : (1 : Int32) <<< (nI s &&& nI 31) = nI (2 ^ s) := sh1 (s := s) (by omega)
    simp (disch := omega) only [hm, hh, hsh, e2, li_2, li_3, li_4, li_5, li_6, li_7, li_8, li_9, li_10, li_12, li_14, li_20, li_26, li_30, li_31, li_36, li_38, li_47, li_48, li_50, li_57, li_58, li_80, li_98, li_99, li_100, li_102, li_104, li_105, li_108, li_109, li_110, li_114, li_115, li_119, li_122, li_137, li_146, li_147, li_148, li_149, li_150, li_200, li_255, li_256, li_274, li_510, li_512, li_640, li_999, li_1000, li_1024, li_3334, li_5000, li_9999, li_10000, li_23338, li_26672, li_30000, li_99999, li_150000, li_300000, pk_mul, nI_add, pk_sub, nI_clamp, nI_1, nI_p1, nI_a0, nI_0a, nI_m0, nI_m1, cl_0, cl_1, z01, z11, nI_leI, nI_ltI, nI_eq, nz_lt0, nz_le, nz_eq0, nz_pos, nz_le0, nz_eq1, nz_lt1, nz_ge1, nz_le1, nz_gt1, nz_vp, nz_vp0, nz_vp1, six_nI, vix_nI, bix_nI, pix_nI, fix_nI, gix_nI, rix_nI, zix_nI, pix_0, pix_1, bix_0, fix_0, fix_1, rix_1, true_and, and_true]
    refine ⟨by omega, fun h => absurd h (by omega), fun _ => ⟨fun c v4 e4 => ?_, fun c => ⟨⟨hw, gok.tb (n := n) hm hns (by omega)⟩, fun v5 r6 q7 hh2 r9 e9 => ?_⟩⟩⟩
    · subst e4
      rw [if_neg (fun z => c z.1)] at hp
      exact ih (s + 1) f r' (by omega) (by omega) hk hp
    · obtain ⟨a1, a2, a3, a4, a5⟩ := hh2
      subst a2 a1
      have h8 := rsnD_8 (μ := q7 0) (g := 2 ^ s)
      have k9 : kR r r9 [17, 18, 19, 20, 21, 22, 23, 35] := by rw [e9]; exact (hk.tr a3 (fun _ h => h) (by decide)).up (by decide) _
      have r35 : r9 35 = nI (rsnD (q7 0) (2 ^ s)).1 := by rw [e9, va_up_self]
      rw [r35]
      refine ⟨fun c2 v11 e11 => ?_, fun c2 => ?_⟩
      · have c3 := (nI_le0 (by omega)).mp c2
        subst e11
        rw [if_neg (fun z => z.2 c3)] at hp
        exact ih (s + 1) f r9 (by omega) (by omega) k9 hp
      · have c3 : ¬ (rsnD (q7 0) (2 ^ s)).1 = 0 := fun z => c2 (by rw [z]; decide)
        rw [if_pos ⟨by simpa using c, c3⟩] at hp
        exact hp r9 k9 (fun s' z => by cases z; exact ⟨r35, by rw [e9, va_up_ne _ _ (by decide)]; exact a4 c3⟩)
theorem k_X11_hasRefused (l : Launch) (D : va_G) (T : Nat → ClassId) (m0 : Nat) (a : Nat → Nat) (p0 : Int32) (r : Nat → Int32) (q : Nat → Nat → Int32) (h : WF (q 0) ∧ gok (q 0) p0) : RMi l yX11_hasRefused (ws_X11_hasRefused) rm_X11_hasRefused D T m0 a [.ref m0, .int p0] r q (fun v u => (u.2 = q ∧ kR r u.1 [17, 18, 19, 20, 21, 22, 23, 35] ∧ v = (match rfF (q 0) (iv p0) with | none => 0 | some _ => 1) ∧ ∀ s, rfF (q 0) (iv p0) = some s → u.1 35 = nI (rsnD (q 0) (2 ^ s)).1 ∧ u.1 17 = (rsnD (q 0) (2 ^ s)).2)) := c_X11_hasRefused l D T m0 a p0 r q _ <|
  (by
    obtain ⟨hw, n, ns, hm, hns, h0, hn, rfl⟩ := h
    have hp2 := p2_le hns
    unfold wp_X11_hasRefused rfF
    rw [show iv (nI n) = n from nI_clamp (by omega), show iv (q 0 1) = ns by rw [hm]; exact nI_clamp (by omega)]
    exact ⟨ns + 1, rl_hasRefused hw (by omega) hns hm ns 0 _ r (by omega) (by omega) kR.rf (fun r1 a1 a2 => ⟨rfl, a1, rfl, a2⟩)⟩)
abbrev ws_X11_layTotals : List Cond := Cond.code yX11_layTotals cX11_layTotals 3 none :: W0
abbrev rm_X11_layTotals : Room := ({ frames := 6, cells := 0, slots := 0, locals := 139 } : Room)
def wb_X11_layTotals_2 (rec : Int32 → Int32 → (Nat → Int32) → (Nat → Nat → Int32) → Prop) (P : RST → Prop) (x1 : Int32) (x2 : Int32) (r : Nat → Int32) (q : Nat → Nat → Int32) : Prop := (x2 ≤ 0 → (P (r, q))) ∧ (¬ x2 ≤ 0 → ((WF (q 0) ∧ gok (q 0) x2) ∧ (∀ (v2 : Int32) (r3 : Nat → Int32) (q4 : Nat → Nat → Int32), (v2 = nI (rsnD (q 0) (iv x2)).1 ∧ q4 = q ∧ kR r r3 [17, 18, 19, 20, 21, 22, 23] ∧ (¬ (rsnD (q 0) (iv x2)).1 = 0 → r3 17 = (rsnD (q 0) (iv x2)).2) ∧ ((rsnD (q 0) (iv x2)).1 = 0 → r3 18 = gvF (q 0) (iv x2) ∧ r3 19 = gzF (q 0) (iv x2) ∧ r3 20 = wtF (q 0) (iv (gvF (q 0) (iv x2))) (iv x2) ∧ r3 21 = pcF (q 0) (iv (gvF (q 0) (iv x2))) (iv x2) ∧ r3 22 = lgF (q 0) (iv (gvF (q 0) (iv x2))) (iv x2) ∧ r3 23 = hdF (q 0) (iv (gvF (q 0) (iv x2))) (iv x2))) → ((v2 ≤ 0 → ((WF (q4 0) ∧ gix x2 ∧ vix (r3 18) ∧ zix (r3 19)) ∧ (∀ (v7 : Int32) (r8 : Nat → Int32) (q9 : Nat → Nat → Int32), (v7 = toF (q4 0) (iv (r3 18)) (iv (r3 19)) (iv x2) (r3 20) (r3 21) (r3 22) (r3 23) ∧ q9 = q4 ∧ kR r3 r8 [7, 24, 25, 26, 27, 28] ∧ r8 7 = nI (chpF (q4 0) (iv (r3 18)) (iv (r3 19)) (r3 20)) ∧ r8 24 = baseF (q4 0) (iv (r3 18)) (iv (r3 19)) (r3 20) ∧ r8 25 = (exAC (q4 0) (iv (r3 18)) (iv (r3 19)) (r3 20) (r3 21) (r3 22) (r3 23)).1 ∧ r8 26 = stF (q4 0) (iv (r3 18)) (iv x2) ∧ r8 27 = fuF (q4 0) (iv (r3 18)) (iv (r3 19)) (iv x2) (r3 20) (r3 21) (r3 22) (r3 23) ∧ r8 28 = (exAC (q4 0) (iv (r3 18)) (iv (r3 19)) (r3 20) (r3 21) (r3 22) (r3 23)).2) → (vp_in x2 1024 ∧ (∀ q12 : Nat → Nat → Int32, q12 = va_up q9 7 (upd (q9 7) (Int32.toNatClampNeg x2) v7) → (∀ v13 : Int32, v13 = ((x2 - 1) &&& x1) → (rec x1 v13 r8 q12))))))) ∧ (¬ v2 ≤ 0 → (vp_in x2 1024 ∧ (∀ q15 : Nat → Nat → Int32, q15 = va_up q4 7 (upd (q4 7) (Int32.toNatClampNeg x2) (-1)) → (∀ v16 : Int32, v16 = ((x2 - 1) &&& x1) → (rec x1 v16 r3 q15)))))))))
def wp_X11_layTotals_2 (P : RST → Prop) : Nat → Int32 → Int32 → (Nat → Int32) → (Nat → Nat → Int32) → Prop
  | 0 => fun _ _ _ _ => False
  | n + 1 => fun x1 x2 r q => wb_X11_layTotals_2 (wp_X11_layTotals_2  P n)  P x1 x2 r q
set_option maxRecDepth 100000 in
set_option maxHeartbeats 4000000 in
theorem t_X11_layTotals_2 {p : Program} {l : Launch} {e : Env} {s : State} {m : MethodId} {args : Array Value} {below : List Frame} {meth : Method} {c : Code} {D : va_G} {A : Nat → Prop} {T : Nat → ClassId} {m0 : Nat} {a : Nat → Nat} (C : GC p s m args meth c cX11_layTotals "FreightRaterModel" (ws_X11_layTotals) 3 D A (zty T)) (hr : meth.sig.returnType = none) (P : RST → Prop) : ∀ (n : Nat) (x1 : Int32) (x2 : Int32) (r : Nat → Int32) (q : Nat → Nat → Int32), wp_X11_layTotals_2  P n x1 x2 r q → GW p l e rm_X11_layTotals s m args below meth c D A 3 0 0 (MQ below (va_Qv P (RE D T m0 a A) A) args s 0 0 A) (RW m0 a T r q) 0 0 2 [(0, .ref m0), (1, .int x1), (2, .int x2)] [] := by
  have hw : ∀ {w : Cond}, w ∈ W0 → w.before args s = true := fun h => C.2.2.2.2.1 _ (List.mem_cons_of_mem _ h)
  intro n
  induction n with
  | zero => intro x1 x2 r q h; exact h.elim
  | succ n ih =>
    intro x1 x2 r q h
    replace h : wb_X11_layTotals_2 (wp_X11_layTotals_2  P n)  P x1 x2 r q := h
    unfold wb_X11_layTotals_2 at h
    refine g_iload_n C dX11_layTotals_2 rfl 2 rfl ?_
    refine g_if_le (tgt := 38) C dX11_layTotals_3 (by decide) (fun z1 => ?_) (fun z1 => ?_)
    · replace h := h.1 z1
      exact gr_vret C hr dX11_layTotals_38 h
    · replace h := h.2 z1
      refine g_aload_n C dX11_layTotals_6 rfl 0 rfl ?_
      refine gr_get C iwx_X11 31 (hw kw_1840) (by decide) rfl rfl dX11_layTotals_7 ?_
      refine g_iload_n C dX11_layTotals_10 rfl 2 rfl ?_
      refine g_aload_n C dX11_layTotals_11 rfl 0 rfl ?_
      refine g_iload_n C dX11_layTotals_12 rfl 2 rfl ?_
      obtain ⟨g5, h⟩ := h
      refine gr_calliV C [.int x2] rfl (k_X11_reasonOf l D T m0 a x2 r q g5) (w0_V 1 C.2.2.2.2.1 kw_2171 kw_2173 ks_86 kw_9 kw_2174 rfl rfl (by decide +kernel) ⟨by decide, by decide⟩) rfl (Nat.le_of_ble_eq_true rfl) (Nat.zero_le _) (Nat.zero_le _) dX11_layTotals_13 (fun v2 r3 q4 hp => ?_)
      replace h := h v2 r3 q4 hp
      refine g_if_le (tgt := 23) C dX11_layTotals_16 (by decide) (fun z6 => ?_) (fun z6 => ?_)
      · replace h := h.1 z6
        refine g_aload_n C dX11_layTotals_23 rfl 0 rfl ?_
        refine g_iload_n C dX11_layTotals_24 rfl 2 rfl ?_
        obtain ⟨g10, h⟩ := h
        refine gr_calliV C [.int x2] rfl (k_X11_totalOf l D T m0 a x2 r3 q4 g10) (w0_V 1 C.2.2.2.2.1 kw_2208 kw_2210 ks_93 kw_9 kw_2211 rfl rfl (by decide +kernel) ⟨by decide, by decide⟩) rfl (Nat.le_of_ble_eq_true rfl) (Nat.zero_le _) (Nat.zero_le _) dX11_layTotals_25 (fun v7 r8 q9 hp => ?_)
        replace h := h v7 r8 q9 hp
        obtain ⟨g11, h⟩ := h
        refine gr_ast_7 C g11 dX11_layTotals_28 ?_
        refine gr_nq (fun q12 eq12 => ?_)
        replace h := h q12 eq12
        refine g_iload_n C dX11_layTotals_29 rfl 2 rfl ?_
        refine g_iconst (v := 1) C dX11_layTotals_30 (by decide) ?_
        refine g_isub C dX11_layTotals_31 ?_
        refine g_iload_n C dX11_layTotals_32 rfl 1 rfl ?_
        refine g_iand C dX11_layTotals_33 ?_
        refine g_topi (fun v13 ev13 => ?_)
        replace h := h v13 ev13
        refine g_istore_n (lv' := [(2, .int v13), (0, .ref m0), (1, .int x1)]) C dX11_layTotals_34 rfl (by decide) rfl ?_
        refine g_goto (tgt := 2) C dX11_layTotals_35 (by decide) ?_
        refine g_locals [1, 2, 0] rfl ?_
        exact ih x1 v13 r8 q12 h
      · replace h := h.2 z6
        refine g_iconst (v := -1) C dX11_layTotals_19 (by decide) ?_
        refine g_goto (tgt := 28) C dX11_layTotals_20 (by decide) ?_
        obtain ⟨g14, h⟩ := h
        refine gr_ast_7 C g14 dX11_layTotals_28 ?_
        refine gr_nq (fun q15 eq15 => ?_)
        replace h := h q15 eq15
        refine g_iload_n C dX11_layTotals_29 rfl 2 rfl ?_
        refine g_iconst (v := 1) C dX11_layTotals_30 (by decide) ?_
        refine g_isub C dX11_layTotals_31 ?_
        refine g_iload_n C dX11_layTotals_32 rfl 1 rfl ?_
        refine g_iand C dX11_layTotals_33 ?_
        refine g_topi (fun v16 ev16 => ?_)
        replace h := h v16 ev16
        refine g_istore_n (lv' := [(2, .int v16), (0, .ref m0), (1, .int x1)]) C dX11_layTotals_34 rfl (by decide) rfl ?_
        refine g_goto (tgt := 2) C dX11_layTotals_35 (by decide) ?_
        refine g_locals [1, 2, 0] rfl ?_
        exact ih x1 v16 r3 q15 h
def wp_X11_layTotals (P : RST → Prop) (p0 : Int32) (r : Nat → Int32) (q : Nat → Nat → Int32) : Prop := ∃ k17 : Nat, wp_X11_layTotals_2  P k17 p0 p0 r q
set_option maxRecDepth 100000 in
set_option maxHeartbeats 4000000 in
theorem t_X11_layTotals {p : Program} {l : Launch} {e : Env} {s : State} {m : MethodId} {args : Array Value} {below : List Frame} {meth : Method} {c : Code} {D : va_G} {A : Nat → Prop} {T : Nat → ClassId} {m0 : Nat} {a : Nat → Nat} (C : GC p s m args meth c cX11_layTotals "FreightRaterModel" (ws_X11_layTotals) 3 D A (zty T)) (hr : meth.sig.returnType = none) (P : RST → Prop) : ∀ (p0 : Int32) (r : Nat → Int32) (q : Nat → Nat → Int32), wp_X11_layTotals P p0 r q → GW p l e rm_X11_layTotals s m args below meth c D A 3 0 0 (MQ below (va_Qv P (RE D T m0 a A) A) args s 0 0 A) (RW m0 a T r q) 0 0 0 [(0, .ref m0), (1, .int p0)] [] := by
  have hw : ∀ {w : Cond}, w ∈ W0 → w.before args s = true := fun h => C.2.2.2.2.1 _ (List.mem_cons_of_mem _ h)
  intro p0 r q h
  unfold wp_X11_layTotals at h
  refine g_iload_n C dX11_layTotals_0 rfl 1 rfl ?_
  refine g_istore_n (lv' := [(2, .int p0), (0, .ref m0), (1, .int p0)]) C dX11_layTotals_1 rfl (by decide) rfl ?_
  refine g_locals [1, 2, 0] rfl ?_
  obtain ⟨k17, h⟩ := h
  refine t_X11_layTotals_2 C hr  P  k17 p0 p0 r q h
theorem c_X11_layTotals (l : Launch) (D : va_G) (T : Nat → ClassId) (m0 : Nat) (a : Nat → Nat) (p0 : Int32) (r : Nat → Int32) (q : Nat → Nat → Int32) (P : RST → Prop) (h : wp_X11_layTotals P p0 r q) : RMv l yX11_layTotals (ws_X11_layTotals) rm_X11_layTotals D T m0 a [.ref m0, .int p0] r q P := gr_metv (by decide) rfl rfl (Nat.le_of_ble_eq_true rfl) (fun p e s m args below meth c A C hr => t_X11_layTotals C hr P p0 r q h)
theorem rl_layTotals {P : RST → Prop} {r : Nat → Int32} {q : Nat → Nat → Int32} {n ns : Nat} (hw : WF (q 0)) (hns : ns ≤ 10) (hm : q 0 1 = nI ns) (hn : n < 2 ^ ns) (hP : ∀ (r1 : Nat → Int32) (q1 : Nat → Nat → Int32), kQ q q1 [7] → kR r r1 [7, 17, 18, 19, 20, 21, 22, 23, 24, 25, 26, 27, 28] → (∀ p, 0 < p → sub p n → q1 7 p = ttF (q 0) p) → P (r1, q1)) : ∀ (x fuel : Nat) (r' : Nat → Int32) (q' : Nat → Nat → Int32), sub x n → x < fuel → kQ q q' [7] → kR r r' [7, 17, 18, 19, 20, 21, 22, 23, 24, 25, 26, 27, 28] → (∀ p, x < p → sub p n → q' 7 p = ttF (q 0) p) → wp_X11_layTotals_2 P fuel (nI n) (nI x) r' q' := by
  intro x
  induction x using Nat.strongRecOn with
  | ind x ih =>
    intro fuel r' q' hx hf hq hr hd
    obtain ⟨f, rfl⟩ : ∃ f, fuel = f + 1 := ⟨fuel - 1, by omega⟩; rw [wp_X11_layTotals_2]; unfold wb_X11_layTotals_2; dsimp only
    have hp2 := p2_le hns
    have hxn := sub_le hx
    have e0 : q' 0 = q 0 := hq 0 (by decide)
    have ex : iv (nI x) = x := nI_clamp (by omega)
    rw [e0, ex]
    refine ⟨fun c => hP r' q' hq hr (fun p h0 hp => hd p (by have := (nI_le0 (n := x) (by omega)).mp c; omega) hp), fun c => ?_⟩
    have hx0 : 0 < x := Nat.pos_of_ne_zero (fun z => c (by rw [z]; decide))
    have hgx : gok (q 0) (nI x) := ⟨x, ns, hm, hns, hx0, by omega, rfl⟩
    refine ⟨⟨hw, hgx⟩, fun v2 r3 q4 hh => ?_⟩
    obtain ⟨a1, a2, a3, a4, a5⟩ := hh
    subst a2 a1
    have h8 := rsnD_8 (μ := q 0) (g := x)
    have lx : (x - 1) &&& n < x := Nat.lt_of_le_of_lt Nat.and_le_left (by omega)
    have nx : (nI x - 1) &&& nI n = nI ((x - 1) &&& n) := by rw [nI_p1 (by omega), nI_and]
    have k3 : kR r r3 [7, 17, 18, 19, 20, 21, 22, 23, 24, 25, 26, 27, 28] := hr.tr a3 (fun _ h => h) (by decide)
    have go : ∀ (t : Int32) (r8 : Nat → Int32), t = ttF (q 0) x → kR r r8 [7, 17, 18, 19, 20, 21, 22, 23, 24, 25, 26, 27, 28] → ∀ q12 : Nat → Nat → Int32, q12 = va_up q4 7 (upd (q4 7) (iv (nI x)) t) → ∀ v13 : Int32, v13 = (nI x - 1) &&& nI n → wp_X11_layTotals_2 P f (nI n) v13 r8 q12 := by
      intro t r8 ht k8 q12 e12 v13 e13
      rw [ex] at e12
      rw [e13, nx]
      refine ih _ lx f r8 q12 (sub_and _ _) (by omega) ?_ k8 (fun p h1 hp => ?_)
      · rw [e12]; exact hq.up (by decide) _
      · rw [e12, va_up_self]
        by_cases e : p = x
        · subst e; rw [pk_us]; exact ht
        · rw [pk_un e]
          refine hd p ?_ hp
          rcases Nat.lt_or_ge x p with z | z
          · exact z
          · have := sub_prev x p n hx hp (by omega)
            omega
    simp (disch := omega) only [nz_vp]
    refine ⟨fun c2 => ?_, fun c2 => ⟨by omega, go (-1) r3 ?_ k3⟩⟩
    · have c3 := (nI_le0 (by omega)).mp c2
      obtain ⟨b18, b19, b20, b21, b22, b23⟩ := a5 c3
      have hr0 := rsn0 (g := x) hw hgx (by omega) c3
      rw [e0]
      refine ⟨⟨hw, hgx.gix.1, by rw [b18]; exact hr0.1.x, by rw [b19]; exact hr0.2.1⟩, fun v7 r8 q9 hh => ?_⟩
      obtain ⟨d1, d2, d3, -⟩ := hh
      subst d2
      rw [tot_eq b18 b19 b20 b21 b22 b23] at d1
      exact ⟨by omega, go v7 r8 (by unfold ttF; rw [if_pos c3]; exact d1) (k3.tr d3 (fun _ h => h) (by decide))⟩
    · have c3 : ¬ (rsnD (q 0) x).1 = 0 := fun z => c2 (by rw [z]; decide)
      unfold ttF; rw [if_neg c3]
theorem k_X11_layTotals (l : Launch) (D : va_G) (T : Nat → ClassId) (m0 : Nat) (a : Nat → Nat) (p0 : Int32) (r : Nat → Int32) (q : Nat → Nat → Int32) (h : WF (q 0) ∧ gok (q 0) p0) : RMv l yX11_layTotals (ws_X11_layTotals) rm_X11_layTotals D T m0 a [.ref m0, .int p0] r q (fun u => (kQ q u.2 [7] ∧ kR r u.1 [7, 17, 18, 19, 20, 21, 22, 23, 24, 25, 26, 27, 28] ∧ ∀ p, 0 < p → sub p (iv p0) → u.2 7 p = ttF (q 0) p)) := c_X11_layTotals l D T m0 a p0 r q _ <|
  (by
    obtain ⟨hw, n, ns, hm, hns, h0, hn, rfl⟩ := h
    have hp2 := p2_le hns
    unfold wp_X11_layTotals
    rw [show iv (nI n) = n from nI_clamp (by omega)]
    exact ⟨n + 1, rl_layTotals hw hns hm hn (fun r1 q1 a b c => ⟨a, b, c⟩) n _ r q (sub_rf n) (by omega) kQ.rf kR.rf (fun p h1 hp => absurd (sub_le hp) (by omega))⟩)

end S_R9S
