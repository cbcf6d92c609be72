section S_RSS
abbrev ws_X11_consolidate : List Cond := Cond.code yX11_consolidate cX11_consolidate 2 (some .int) :: W0
abbrev rm_X11_consolidate : Room := ({ frames := 8, cells := 0, slots := 0, locals := 183 } : Room)
def wp_X11_consolidate (P : Int32 → RST → Prop) (p0 : Int32) (r : Nat → Int32) (q : Nat → Nat → Int32) : Prop := (WF (q 0) ∧ rix 8) ∧ (∀ (v1 : Int32) (r2 : Nat → Int32) (q3 : Nat → Nat → Int32), (v1 = lckF (q 0) p0 (iv 8) ∧ r2 = va_up r 35 0 ∧ q3 = q) → (∀ r5 : Nat → Int32, r5 = va_up r2 6 v1 → (((r5 6) ≤ 0 → ((WF (q3 0) ∧ gok (q3 0) p0) ∧ (∀ (v7 : Int32) (r8 : Nat → Int32) (q9 : Nat → Nat → Int32), (q9 = q3 ∧ kR r5 r8 [17, 18, 19, 20, 21, 22, 23, 35] ∧ v7 = (match rfF (q3 0) (iv p0) with | none => 0 | some _ => 1) ∧ ∀ s, rfF (q3 0) (iv p0) = some s → r8 35 = nI (rsnD (q3 0) (2 ^ s)).1 ∧ r8 17 = (rsnD (q3 0) (2 ^ s)).2) → ((v7 = 0 → ((WF (q9 0) ∧ gok (q9 0) p0 ∧ sgO (q9 0) (iv p0)) ∧ (∀ (r13 : Nat → Int32) (q14 : Nat → Nat → Int32), (lbP r8 q9 (iv p0) r13 q14) → (vp_in p0 1024 ∧ (P (q14 8 (Int32.toNatClampNeg p0)) (r13, q14)))))) ∧ (¬ v7 = 0 → (∀ (v17 : Int32) (r18 : Nat → Int32) (q19 : Nat → Nat → Int32), (v17 = 0 ∧ q19 = q9 ∧ r18 = va_up (va_up (va_up r8 29 (r8 35)) 30 (r8 17)) 6 3) → (P v17 (r18, q19)))))))) ∧ (¬ (r5 6) ≤ 0 → (P 0 (r5, q3))))))
set_option maxRecDepth 100000 in
set_option maxHeartbeats 4000000 in
theorem t_X11_consolidate {p : Program} {l : Launch} {e : Env} {s : State} {m : MethodId} {args : Array Value} {below : List Frame} {meth : Method} {c : Code} {D : va_G} {A : Nat → Prop} {T : Nat → ClassId} {m0 : Nat} {a : Nat → Nat} (C : GC p s m args meth c cX11_consolidate "FreightRaterModel" (ws_X11_consolidate) 2 D A (zty T)) (hr : meth.sig.returnType = (some .int)) (P : Int32 → RST → Prop) : ∀ (p0 : Int32) (r : Nat → Int32) (q : Nat → Nat → Int32), wp_X11_consolidate P p0 r q → GW p l e rm_X11_consolidate s m args below meth c D A 2 0 0 (MQ below (va_Qi P (RE D T m0 a A) A) args s 0 0 A) (RW m0 a T r q) 0 0 0 [(0, .ref m0), (1, .int p0)] [] := by
  have hw : ∀ {w : Cond}, w ∈ W0 → w.before args s = true := fun h => C.2.2.2.2.1 _ (List.mem_cons_of_mem _ h)
  intro p0 r q h
  unfold wp_X11_consolidate at h
  refine g_aload_n C dX11_consolidate_0 rfl 0 rfl ?_
  refine g_aload_n C dX11_consolidate_1 rfl 0 rfl ?_
  refine g_iload_n C dX11_consolidate_2 rfl 1 rfl ?_
  refine g_bipush (v := 8) C dX11_consolidate_3 (by decide) ?_
  obtain ⟨g4, h⟩ := h
  refine gr_calliV C [.int p0, .int 8] rfl (k_X11_lacks l D T m0 a p0 8 r q g4) (w0_V 2 C.2.2.2.2.1 kw_2247 kw_2249 ks_96 kw_9 kw_2250 rfl rfl (by decide +kernel) ⟨by decide, by decide⟩) rfl (Nat.le_of_ble_eq_true rfl) (Nat.zero_le _) (Nat.zero_le _) dX11_consolidate_5 (fun v1 r2 q3 hp => ?_)
  replace h := h v1 r2 q3 hp
  refine gr_put_6 C iwx_X11 (hw kw_1815) dX11_consolidate_8 ?_
  refine gr_nr (fun r5 er5 => ?_)
  replace h := h r5 er5
  refine g_aload_n C dX11_consolidate_11 rfl 0 rfl ?_
  refine gr_get C iwx_X11 6 (hw kw_1815) (by decide) rfl rfl dX11_consolidate_12 ?_
  refine g_if_le (tgt := 20) C dX11_consolidate_15 (by decide) (fun z6 => ?_) (fun z6 => ?_)
  · replace h := h.1 z6
    refine g_aload_n C dX11_consolidate_20 rfl 0 rfl ?_
    refine g_iload_n C dX11_consolidate_21 rfl 1 rfl ?_
    obtain ⟨g10, h⟩ := h
    refine gr_calliV C [.int p0] rfl (k_X11_hasRefused l D T m0 a p0 r5 q3 g10) (w0_V 1 C.2.2.2.2.1 kw_2251 kw_2253 ks_97 kw_9 kw_2254 rfl rfl (by decide +kernel) ⟨by decide, by decide⟩) rfl (Nat.le_of_ble_eq_true rfl) (Nat.zero_le _) (Nat.zero_le _) dX11_consolidate_22 (fun v7 r8 q9 hp => ?_)
    replace h := h v7 r8 q9 hp
    refine g_if_eq (tgt := 38) C dX11_consolidate_25 (by decide) (fun z11 => ?_) (fun z11 => ?_)
    · replace h := h.1 z11
      refine g_aload_n C dX11_consolidate_38 rfl 0 rfl ?_
      refine g_iload_n C dX11_consolidate_39 rfl 1 rfl ?_
      obtain ⟨g15, h⟩ := h
      refine gr_callvV C [.int p0] rfl (k_X11_layBest l D T m0 a p0 r8 q9 g15) (w0_V 1 C.2.2.2.2.1 kw_2255 kw_2257 ks_98 kw_9 kw_2258 rfl rfl (by decide +kernel) ⟨by decide, by decide⟩) rfl (Nat.le_of_ble_eq_true rfl) (Nat.zero_le _) (Nat.zero_le _) dX11_consolidate_40 (fun r13 q14 hp => ?_)
      replace h := h r13 q14 hp
      refine g_aload_n C dX11_consolidate_43 rfl 0 rfl ?_
      refine gr_get C iwx_X11 32 (hw kw_1841) (by decide) rfl rfl dX11_consolidate_44 ?_
      refine g_iload_n C dX11_consolidate_47 rfl 1 rfl ?_
      obtain ⟨g16, h⟩ := h
      refine gr_ald_8 C g16 dX11_consolidate_48 ?_
      exact gr_iret C hr dX11_consolidate_49 h
    · replace h := h.2 z11
      refine g_aload_n C dX11_consolidate_28 rfl 0 rfl ?_
      refine g_aload_n C dX11_consolidate_29 rfl 0 rfl ?_
      refine gr_get C iwx_X11 35 (hw kw_1844) (by decide) rfl rfl dX11_consolidate_30 ?_
      refine g_iconst (v := 3) C dX11_consolidate_33 (by decide) ?_
      refine gr_calliV C [.int (r8 35), .int 3] rfl (k_X11_keepsReason l D T m0 a (r8 35) 3 r8 q9) (w0_V 2 C.2.2.2.2.1 kw_2204 kw_2206 ks_92 kw_9 kw_2207 rfl rfl (by decide +kernel) ⟨by decide, by decide⟩) rfl (Nat.le_of_ble_eq_true rfl) (Nat.zero_le _) (Nat.zero_le _) dX11_consolidate_34 (fun v17 r18 q19 hp => ?_)
      replace h := h v17 r18 q19 hp
      exact gr_iret C hr dX11_consolidate_37 h
  · replace h := h.2 z6
    refine g_iconst (v := 0) C dX11_consolidate_18 (by decide) ?_
    exact gr_iret C hr dX11_consolidate_19 h
theorem c_X11_consolidate (l : Launch) (D : va_G) (T : Nat → ClassId) (m0 : Nat) (a : Nat → Nat) (p0 : Int32) (r : Nat → Int32) (q : Nat → Nat → Int32) (P : Int32 → RST → Prop) (h : wp_X11_consolidate P p0 r q) : RMi l yX11_consolidate (ws_X11_consolidate) rm_X11_consolidate D T m0 a [.ref m0, .int p0] r q P := gr_meti (by decide) rfl rfl (Nat.le_of_ble_eq_true rfl) (fun p e s m args below meth c A C hr => t_X11_consolidate C hr P p0 r q h)
def rfR (μ : Nat → Int32) (n : Nat) : Int32 := match rfF μ n with | none => 0 | some s => nI (rsnD μ (2 ^ s)).1
def rfT (μ : Nat → Int32) (n : Nat) : Int32 := match rfF μ n with | none => 0 | some s => (rsnD μ (2 ^ s)).2
/-- why a set cannot be consolidated -/
def conC (μ : Nat → Int32) (g : Int32) (m : Nat) : Int32 := if lckF μ g m = 0 then (match rfF μ (iv g) with | none => 0 | some _ => 3) else lckF μ g m
def gpL (F : Nat → Int32) : Nat → Nat → Nat
  | 0, n => n
  | k + 1, n => gpL F k (dif n (iv (F n)))
def grC (μ : Nat → Int32) (g i : Int32) : Int32 := if conC μ g 8 = 0 then (if i = -1 then 0 else if zin i 0 ((dpZ (ttF μ) (iv g)).2.1 (iv g) - 1) = 0 then 4 else 0) else conC μ g 8
def grA (μ : Nat → Int32) (n : Nat) (i : Int32) : Int32 := if i = -1 then (dpZ (ttF μ) n).2.1 n else (dpZ (ttF μ) n).2.2 (gpL (dpZ (ttF μ) n).2.2 (iv i) n)
def dpQ (T : Nat → Int32) (t : T3) (p : Nat) : Prop := ∃ g, 0 < g ∧ sub g p ∧ g.testBit (lowN p) = true ∧ 0 ≤ T g ∧ t.1 p = T g + t.1 (dif p g) ∧ t.2.1 p = 1 + t.2.1 (dif p g) ∧ t.2.2 p = nI g
theorem lp_ok {T B C : Nat → Int32} {p : Nat} (hp : p < 1024) (h0 : 0 < p) (h1 : 0 ≤ T (2 ^ lowN p)) : ∀ (m g : Nat) (x : X3), g + m = p + 1 → 0 < g → ((∃ g', 0 < g' ∧ sub g' p ∧ g'.testBit (lowN p) = true ∧ 0 ≤ T g' ∧ x = (T g' + B (dif p g'), 1 + C (dif p g'), nI g')) ∨ (x.1 = -1 ∧ g ≤ 2 ^ lowN p)) → ∃ g', 0 < g' ∧ sub g' p ∧ g'.testBit (lowN p) = true ∧ 0 ≤ T g' ∧ lpF T B C p m g x = (T g' + B (dif p g'), 1 + C (dif p g'), nI g') := by
  have hl := low_tb' hp h0
  have hs : sub (2 ^ lowN p) p := sub_tb.mpr fun i hi => by
    rw [Nat.testBit_two_pow] at hi
    rw [← of_decide_eq_true hi]
    exact hl
  have hle := sub_le hs
  intro m
  induction m with
  | zero =>
    intro g x hg hg0 h
    rcases h with h | ⟨_, h⟩
    · exact h
    · omega
  | succ m ih =>
    intro g x hg hg0 h
    rw [lpF]
    refine ih (g + 1) _ (by omega) (by omega) ?_
    by_cases hv : g &&& p = g ∧ g.testBit (lowN p) = true ∧ 0 ≤ T g
    · left
      unfold lpS
      rw [if_pos hv]
      split
      · exact ⟨g, hg0, hv.1, hv.2.1, hv.2.2, rfl⟩
      · rename_i c
        rcases h with h | ⟨hx, _⟩
        · exact h
        · exact absurd (Or.inl (by rw [hx]; decide)) c
    · have eS : lpS T B C p g x = x := by unfold lpS; rw [if_neg hv]
      rw [eS]
      rcases h with h | ⟨hx, hg2⟩
      · exact Or.inl h
      · refine Or.inr ⟨hx, ?_⟩
        rcases Nat.lt_or_ge g (2 ^ lowN p) with q9 | q9
        · exact q9
        · have e : g = 2 ^ lowN p := by omega
          subst e
          exact absurd ⟨hs, by rw [Nat.testBit_two_pow]; exact decide_eq_true rfl, h1⟩ hv
theorem dp_ok {T : Nat → Int32} {n : Nat} (hn : n < 1024) (h1 : ∀ s, n.testBit s = true → 0 ≤ T (2 ^ s)) (t : T3) : ∀ k p, p ≤ k → 0 < p → sub p n → dpQ T (dpK T n t k) p := by
  intro k
  induction k with
  | zero => intro p hp h0; omega
  | succ k ih =>
    intro p hp h0 hs
    rw [dpK]
    by_cases c : (k + 1) &&& n = k + 1
    · rw [if_pos c]
      have hk : k + 1 < 1024 := Nat.lt_of_le_of_lt (sub_le c) hn
      have hlow := low_tb' hk (by omega)
      unfold dpQ dpU
      dsimp only
      by_cases e : p = k + 1
      · subst e
        obtain ⟨g, g0, g1, g2, g3, g4⟩ := lp_ok (T := T) (B := (dpK T n t k).1) (C := (dpK T n t k).2.1) hk (by omega) (h1 _ (sub_tb.mp c _ hlow)) (k + 1) 1 (-1, (dpK T n t k).2.1 (k + 1), (dpK T n t k).2.2 (k + 1)) (by omega) (by decide) (Or.inr ⟨rfl, Nat.two_pow_pos _⟩)
        have hd : dif (k + 1) g < k + 1 := dif_lt hlow g2
        have eX : dpX T (dpK T n t k) (k + 1) = (T g + (dpK T n t k).1 (dif (k + 1) g), 1 + (dpK T n t k).2.1 (dif (k + 1) g), nI g) := g4
        refine ⟨g, g0, g1, g2, g3, ?_, ?_, ?_⟩
        · rw [pk_us, pk_un (by omega), eX]
        · rw [pk_us, pk_un (by omega), eX]
        · rw [pk_us, eX]
      · obtain ⟨g, g0, g1, g2, g3, g4, g5, g6⟩ := ih p (by omega) h0 hs
        have hd : dif p g ≤ p := sub_le (sub_dif p g)
        refine ⟨g, g0, g1, g2, g3, ?_, ?_, ?_⟩
        · rw [pk_un e, pk_un (by omega)]; exact g4
        · rw [pk_un e, pk_un (by omega)]; exact g5
        · rw [pk_un e]; exact g6
    · rw [if_neg c]
      have e : p ≠ k + 1 := fun e => c (by rw [← e]; exact hs)
      exact ih p (by omega) h0 hs
theorem dp_0 {T : Nat → Int32} {n : Nat} {t : T3} : ∀ k, (dpK T n t k).1 0 = 0 ∧ (dpK T n t k).2.1 0 = 0 := by
  intro k
  induction k with
  | zero => rw [dpK]; dsimp only; exact ⟨pk_us, pk_us⟩
  | succ k ih =>
    rw [dpK]
    split
    · unfold dpU
      dsimp only
      rw [pk_un (by omega), pk_un (by omega)]
      exact ih
    · exact ih
theorem cnt_ok {T : Nat → Int32} {n : Nat} {t : T3} (h : ∀ p, 0 < p → sub p n → dpQ T t p) (hn : n < 1024) (h0 : t.2.1 0 = 0) : ∀ B p, p < B → sub p n → ∃ c, c ≤ p ∧ t.2.1 p = nI c ∧ (0 < p → 0 < c) := by
  intro B
  induction B with
  | zero => intro p hp; omega
  | succ B ih =>
    intro p hp hs
    rcases Nat.eq_zero_or_pos p with e | e
    · subst e; exact ⟨0, Nat.le_refl _, h0, fun z9 => absurd z9 (by decide)⟩
    · obtain ⟨g, g0, g1, g2, g3, g4, g5, g6⟩ := h p e hs
      have hp1 : p < 1024 := Nat.lt_of_le_of_lt (sub_le hs) hn
      have hd : dif p g < p := dif_lt (low_tb' hp1 e) g2
      obtain ⟨c, hc, ec, _⟩ := ih (dif p g) (by omega) (sub_tr (sub_dif p g) hs)
      refine ⟨c + 1, by omega, ?_, fun _ => by omega⟩
      rw [g5, ec, show (1 : Int32) = nI 1 from rfl, nI_add, Nat.add_comm]
theorem lck_0 {μ : Nat → Int32} (hw : WF μ) {g : Int32} {m : Nat} (h : lckF μ g m = 0) : gok μ g := by
  unfold lckF at h
  split at h
  · cases h
  · rename_i c; exact grp_gok hw c
theorem lck_v {μ : Nat → Int32} {g : Int32} {m : Nat} : lckF μ g m = 0 ∨ lckF μ g m = 1 ∨ lckF μ g m = 2 := by
  unfold lckF
  split
  · exact Or.inr (Or.inl rfl)
  split
  · exact Or.inr (Or.inr rfl)
  · exact Or.inl rfl
theorem lck_p {μ : Nat → Int32} {g : Int32} {m : Nat} : (lckF μ g m ≤ 0 ↔ lckF μ g m = 0) := by
  rcases lck_v (μ := μ) (g := g) (m := m) with h | h | h <;> rw [h] <;> decide
theorem gok.n {μ : Nat → Int32} {g : Int32} (h : gok μ g) : ∃ n, n < 1024 ∧ 0 < n ∧ g = nI n ∧ iv g = n := by
  obtain ⟨n, ns, hns, hns10, h0, hlt, e⟩ := h
  have hn : n < 1024 := Nat.lt_of_lt_of_le hlt (p2_le hns10)
  exact ⟨n, hn, h0, e, by rw [e]; exact nI_clamp (by omega)⟩
theorem k_X11_consolidate (l : Launch) (D : va_G) (T : Nat → ClassId) (m0 : Nat) (a : Nat → Nat) (p0 : Int32) (r : Nat → Int32) (q : Nat → Nat → Int32) (h : WF (q 0)) : RMi l yX11_consolidate (ws_X11_consolidate) rm_X11_consolidate D T m0 a [.ref m0, .int p0] r q (fun v u => (kQ q u.2 [7, 8, 9, 10] ∧ kR r u.1 SCK ∧ u.1 6 = conC (q 0) p0 8 ∧ (conC (q 0) p0 8 = 0 → v = (dpZ (ttF (q 0)) (iv p0)).1 (iv p0)) ∧ u.1 29 = (if conC (q 0) p0 8 = 3 then rfR (q 0) (iv p0) else r 29) ∧ u.1 30 = (if conC (q 0) p0 8 = 3 then rfT (q 0) (iv p0) else r 30))) := c_X11_consolidate l D T m0 a p0 r q _ <|
  (by
    have hw := h
    unfold wp_X11_consolidate
    refine ⟨⟨hw, ⟨8, by decide, rfl⟩⟩, fun v1 r2 q3 hh => ?_⟩
    obtain ⟨a1, a2, a3⟩ := hh
    subst a3
    rw [show iv 8 = 8 from rfl] at a1
    have k2 : kR r r2 SCK := by rw [a2]; exact kR.rf.up (by decide) _
    refine fun r5 e5 => ?_
    have k5 : kR r r5 SCK := by rw [e5]; exact k2.up (by decide) _
    have s5 : r5 6 = lckF (q3 0) p0 8 := by rw [e5, va_up_self, a1]
    have s29 : r5 29 = r 29 := by rw [e5, va_up_ne _ _ (by decide), a2, va_up_ne _ _ (by decide)]
    have s30 : r5 30 = r 30 := by rw [e5, va_up_ne _ _ (by decide), a2, va_up_ne _ _ (by decide)]
    rw [s5, lck_p]
    refine ⟨fun c => ?_, fun c => ?_⟩
    · have hg := lck_0 hw c
      obtain ⟨n, hn, h0, en, ien⟩ := hg.n
      refine ⟨⟨hw, hg⟩, fun v7 r8 q9 hh => ?_⟩
      obtain ⟨b1, b2, b3, b4⟩ := hh
      subst b1
      have k8 : kR r r8 SCK := k5.tr b2 (fun _ h => h) (by decide)
      cases hr : rfF (q9 0) (iv p0) with
      | none =>
        rw [hr] at b3
        have hC : conC (q9 0) p0 8 = 0 := by unfold conC; rw [if_pos c, hr]
        have hsg : sgO (q9 0) (iv p0) := by rw [ien] at hr ⊢; exact sgO_of hw (by rw [← en]; exact hg) hn hr
        refine ⟨fun _ => ⟨⟨hw, hg, hsg⟩, fun r13 q14 hl => ?_⟩, fun z9 => absurd b3 z9⟩
        obtain ⟨l1, l2, l3, l4⟩ := hl
        rw [en, nz_vp (by omega) (by decide), nI_clamp (n := n) (by omega)]
        rw [ien] at l3 l4
        rw [en] at hC
        have k13 : kR r r13 SCK := k8.tr l2 (fun _ h => h) (by decide)
        refine ⟨by omega, l1, k13, ?_, fun _ => ?_, ?_, ?_⟩
        · dsimp only; rw [hC, l2 6 (by decide), b2 6 (by decide), s5, c]
        · (try dsimp only); rw [show iv (nI n) = n from nI_clamp (by omega)]; exact (l4 n (sub_rf n)).1
        · dsimp only; rw [hC, if_neg (by decide), l2 29 (by decide), b2 29 (by decide), s29]
        · dsimp only; rw [hC, if_neg (by decide), l2 30 (by decide), b2 30 (by decide), s30]
      | some s =>
        rw [hr] at b3
        have hC : conC (q9 0) p0 8 = 3 := by unfold conC; rw [if_pos c, hr]
        refine ⟨fun z9 => absurd (show (1 : Int32) = 0 from b3.symm.trans z9) (by decide), fun _ v16 r17 q18 hk => ?_⟩
        obtain ⟨d1, d2, d3⟩ := hk
        subst d2
        obtain ⟨f1, f2⟩ := b4 s hr
        refine ⟨kQ.rf, by dsimp only; rw [d3]; exact ((k8.up (by decide) _).up (by decide) _).up (by decide) _, ?_, fun z9 => absurd (hC.symm.trans z9) (by decide), ?_, ?_⟩
        · dsimp only; rw [hC, d3, va_up_self]
        · dsimp only
          rw [hC, if_pos rfl, d3, va_up_ne _ _ (by decide), va_up_ne _ _ (by decide), va_up_self, f1]
          unfold rfR; rw [hr]
        · dsimp only
          rw [hC, if_pos rfl, d3, va_up_ne _ _ (by decide), va_up_self, f2]
          unfold rfT; rw [hr]
    · have hC : conC (q3 0) p0 8 = lckF (q3 0) p0 8 := by unfold conC; rw [if_neg c]
      have h3 : ¬ conC (q3 0) p0 8 = 3 := by
        rw [hC]
        rcases lck_v (μ := q3 0) (g := p0) (m := 8) with z9 | z9 | z9 <;> rw [z9] <;> decide
      refine ⟨kQ.rf, k5, ?_, fun z9 => absurd (hC.symm.trans z9) c, ?_, ?_⟩
      · dsimp only; rw [hC, s5]
      · dsimp only; rw [if_neg h3, s29]
      · dsimp only; rw [if_neg h3, s30])
abbrev ws_X11_searched : List Cond := Cond.code yX11_searched cX11_searched 2 (some .int) :: W0
abbrev rm_X11_searched : Room := ({ frames := 8, cells := 0, slots := 0, locals := 183 } : Room)
def wp_X11_searched (P : Int32 → RST → Prop) (p0 : Int32) (r : Nat → Int32) (q : Nat → Nat → Int32) : Prop := (WF (q 0) ∧ rix 6) ∧ (∀ (v1 : Int32) (r2 : Nat → Int32) (q3 : Nat → Nat → Int32), (v1 = lckF (q 0) p0 (iv 6) ∧ r2 = va_up r 35 0 ∧ q3 = q) → (∀ r5 : Nat → Int32, r5 = va_up r2 6 v1 → ((¬ (r5 6) = 0 → (((r5 6) ≤ 0 → ((WF (q3 0) ∧ gok (q3 0) p0 ∧ sgO (q3 0) (iv p0)) ∧ (∀ (r9 : Nat → Int32) (q10 : Nat → Nat → Int32), (lbP r5 q3 (iv p0) r9 q10) → (vp_in p0 1024 ∧ (P (q10 8 (Int32.toNatClampNeg p0)) (r9, q10)))))) ∧ (¬ (r5 6) ≤ 0 → (P 0 (r5, q3))))) ∧ ((r5 6) = 0 → ((WF (q3 0) ∧ gok (q3 0) p0) ∧ (∀ (v13 : Int32) (r14 : Nat → Int32) (q15 : Nat → Nat → Int32), (q15 = q3 ∧ kR r5 r14 [17, 18, 19, 20, 21, 22, 23, 35] ∧ v13 = (match rfF (q3 0) (iv p0) with | none => 0 | some _ => 1) ∧ ∀ s, rfF (q3 0) (iv p0) = some s → r14 35 = nI (rsnD (q3 0) (2 ^ s)).1 ∧ r14 17 = (rsnD (q3 0) (2 ^ s)).2) → ((v13 = 0 → (((r14 6) ≤ 0 → ((WF (q15 0) ∧ gok (q15 0) p0 ∧ sgO (q15 0) (iv p0)) ∧ (∀ (r20 : Nat → Int32) (q21 : Nat → Nat → Int32), (lbP r14 q15 (iv p0) r20 q21) → (vp_in p0 1024 ∧ (P (q21 8 (Int32.toNatClampNeg p0)) (r20, q21)))))) ∧ (¬ (r14 6) ≤ 0 → (P 0 (r14, q15))))) ∧ (¬ v13 = 0 → (∀ r24 : Nat → Int32, r24 = va_up r14 6 3 → (((r24 6) ≤ 0 → ((WF (q15 0) ∧ gok (q15 0) p0 ∧ sgO (q15 0) (iv p0)) ∧ (∀ (r27 : Nat → Int32) (q28 : Nat → Nat → Int32), (lbP r24 q15 (iv p0) r27 q28) → (vp_in p0 1024 ∧ (P (q28 8 (Int32.toNatClampNeg p0)) (r27, q28)))))) ∧ (¬ (r24 6) ≤ 0 → (P 0 (r24, q15)))))))))))))
set_option maxRecDepth 100000 in
set_option maxHeartbeats 4000000 in
theorem t_X11_searched {p : Program} {l : Launch} {e : Env} {s : State} {m : MethodId} {args : Array Value} {below : List Frame} {meth : Method} {c : Code} {D : va_G} {A : Nat → Prop} {T : Nat → ClassId} {m0 : Nat} {a : Nat → Nat} (C : GC p s m args meth c cX11_searched "FreightRaterModel" (ws_X11_searched) 2 D A (zty T)) (hr : meth.sig.returnType = (some .int)) (P : Int32 → RST → Prop) : ∀ (p0 : Int32) (r : Nat → Int32) (q : Nat → Nat → Int32), wp_X11_searched P p0 r q → GW p l e rm_X11_searched s m args below meth c D A 2 0 0 (MQ below (va_Qi P (RE D T m0 a A) A) args s 0 0 A) (RW m0 a T r q) 0 0 0 [(0, .ref m0), (1, .int p0)] [] := by
  have hw : ∀ {w : Cond}, w ∈ W0 → w.before args s = true := fun h => C.2.2.2.2.1 _ (List.mem_cons_of_mem _ h)
  intro p0 r q h
  unfold wp_X11_searched at h
  refine g_aload_n C dX11_searched_0 rfl 0 rfl ?_
  refine g_aload_n C dX11_searched_1 rfl 0 rfl ?_
  refine g_iload_n C dX11_searched_2 rfl 1 rfl ?_
  refine g_bipush (v := 6) C dX11_searched_3 (by decide) ?_
  obtain ⟨g4, h⟩ := h
  refine gr_calliV C [.int p0, .int 6] rfl (k_X11_lacks l D T m0 a p0 6 r q g4) (w0_V 2 C.2.2.2.2.1 kw_2247 kw_2249 ks_96 kw_9 kw_2250 rfl rfl (by decide +kernel) ⟨by decide, by decide⟩) rfl (Nat.le_of_ble_eq_true rfl) (Nat.zero_le _) (Nat.zero_le _) dX11_searched_5 (fun v1 r2 q3 hp => ?_)
  replace h := h v1 r2 q3 hp
  refine gr_put_6 C iwx_X11 (hw kw_1815) dX11_searched_8 ?_
  refine gr_nr (fun r5 er5 => ?_)
  replace h := h r5 er5
  refine g_aload_n C dX11_searched_11 rfl 0 rfl ?_
  refine gr_get C iwx_X11 6 (hw kw_1815) (by decide) rfl rfl dX11_searched_12 ?_
  refine g_if_ne (tgt := 31) C dX11_searched_15 (by decide) (fun z6 => ?_) (fun z6 => ?_)
  · replace h := h.1 z6
    refine g_aload_n C dX11_searched_31 rfl 0 rfl ?_
    refine gr_get C iwx_X11 6 (hw kw_1815) (by decide) rfl rfl dX11_searched_32 ?_
    refine g_if_le (tgt := 40) C dX11_searched_35 (by decide) (fun z7 => ?_) (fun z7 => ?_)
    · replace h := h.1 z7
      refine g_aload_n C dX11_searched_40 rfl 0 rfl ?_
      refine g_iload_n C dX11_searched_41 rfl 1 rfl ?_
      obtain ⟨g11, h⟩ := h
      refine gr_callvV C [.int p0] rfl (k_X11_layBest l D T m0 a p0 r5 q3 g11) (w0_V 1 C.2.2.2.2.1 kw_2255 kw_2257 ks_98 kw_9 kw_2258 rfl rfl (by decide +kernel) ⟨by decide, by decide⟩) rfl (Nat.le_of_ble_eq_true rfl) (Nat.zero_le _) (Nat.zero_le _) dX11_searched_42 (fun r9 q10 hp => ?_)
      replace h := h r9 q10 hp
      refine g_aload_n C dX11_searched_45 rfl 0 rfl ?_
      refine gr_get C iwx_X11 32 (hw kw_1841) (by decide) rfl rfl dX11_searched_46 ?_
      refine g_iload_n C dX11_searched_49 rfl 1 rfl ?_
      obtain ⟨g12, h⟩ := h
      refine gr_ald_8 C g12 dX11_searched_50 ?_
      exact gr_iret C hr dX11_searched_51 h
    · replace h := h.2 z7
      refine g_iconst (v := 0) C dX11_searched_38 (by decide) ?_
      exact gr_iret C hr dX11_searched_39 h
  · replace h := h.2 z6
    refine g_aload_n C dX11_searched_18 rfl 0 rfl ?_
    refine g_iload_n C dX11_searched_19 rfl 1 rfl ?_
    obtain ⟨g16, h⟩ := h
    refine gr_calliV C [.int p0] rfl (k_X11_hasRefused l D T m0 a p0 r5 q3 g16) (w0_V 1 C.2.2.2.2.1 kw_2251 kw_2253 ks_97 kw_9 kw_2254 rfl rfl (by decide +kernel) ⟨by decide, by decide⟩) rfl (Nat.le_of_ble_eq_true rfl) (Nat.zero_le _) (Nat.zero_le _) dX11_searched_20 (fun v13 r14 q15 hp => ?_)
    replace h := h v13 r14 q15 hp
    refine g_if_eq (tgt := 31) C dX11_searched_23 (by decide) (fun z17 => ?_) (fun z17 => ?_)
    · replace h := h.1 z17
      refine g_aload_n C dX11_searched_31 rfl 0 rfl ?_
      refine gr_get C iwx_X11 6 (hw kw_1815) (by decide) rfl rfl dX11_searched_32 ?_
      refine g_if_le (tgt := 40) C dX11_searched_35 (by decide) (fun z18 => ?_) (fun z18 => ?_)
      · replace h := h.1 z18
        refine g_aload_n C dX11_searched_40 rfl 0 rfl ?_
        refine g_iload_n C dX11_searched_41 rfl 1 rfl ?_
        obtain ⟨g22, h⟩ := h
        refine gr_callvV C [.int p0] rfl (k_X11_layBest l D T m0 a p0 r14 q15 g22) (w0_V 1 C.2.2.2.2.1 kw_2255 kw_2257 ks_98 kw_9 kw_2258 rfl rfl (by decide +kernel) ⟨by decide, by decide⟩) rfl (Nat.le_of_ble_eq_true rfl) (Nat.zero_le _) (Nat.zero_le _) dX11_searched_42 (fun r20 q21 hp => ?_)
        replace h := h r20 q21 hp
        refine g_aload_n C dX11_searched_45 rfl 0 rfl ?_
        refine gr_get C iwx_X11 32 (hw kw_1841) (by decide) rfl rfl dX11_searched_46 ?_
        refine g_iload_n C dX11_searched_49 rfl 1 rfl ?_
        obtain ⟨g23, h⟩ := h
        refine gr_ald_8 C g23 dX11_searched_50 ?_
        exact gr_iret C hr dX11_searched_51 h
      · replace h := h.2 z18
        refine g_iconst (v := 0) C dX11_searched_38 (by decide) ?_
        exact gr_iret C hr dX11_searched_39 h
    · replace h := h.2 z17
      refine g_aload_n C dX11_searched_26 rfl 0 rfl ?_
      refine g_iconst (v := 3) C dX11_searched_27 (by decide) ?_
      refine gr_put_6 C iwx_X11 (hw kw_1815) dX11_searched_28 ?_
      refine gr_nr (fun r24 er24 => ?_)
      replace h := h r24 er24
      refine g_aload_n C dX11_searched_31 rfl 0 rfl ?_
      refine gr_get C iwx_X11 6 (hw kw_1815) (by decide) rfl rfl dX11_searched_32 ?_
      refine g_if_le (tgt := 40) C dX11_searched_35 (by decide) (fun z25 => ?_) (fun z25 => ?_)
      · replace h := h.1 z25
        refine g_aload_n C dX11_searched_40 rfl 0 rfl ?_
        refine g_iload_n C dX11_searched_41 rfl 1 rfl ?_
        obtain ⟨g29, h⟩ := h
        refine gr_callvV C [.int p0] rfl (k_X11_layBest l D T m0 a p0 r24 q15 g29) (w0_V 1 C.2.2.2.2.1 kw_2255 kw_2257 ks_98 kw_9 kw_2258 rfl rfl (by decide +kernel) ⟨by decide, by decide⟩) rfl (Nat.le_of_ble_eq_true rfl) (Nat.zero_le _) (Nat.zero_le _) dX11_searched_42 (fun r27 q28 hp => ?_)
        replace h := h r27 q28 hp
        refine g_aload_n C dX11_searched_45 rfl 0 rfl ?_
        refine gr_get C iwx_X11 32 (hw kw_1841) (by decide) rfl rfl dX11_searched_46 ?_
        refine g_iload_n C dX11_searched_49 rfl 1 rfl ?_
        obtain ⟨g30, h⟩ := h
        refine gr_ald_8 C g30 dX11_searched_50 ?_
        exact gr_iret C hr dX11_searched_51 h
      · replace h := h.2 z25
        refine g_iconst (v := 0) C dX11_searched_38 (by decide) ?_
        exact gr_iret C hr dX11_searched_39 h
theorem c_X11_searched (l : Launch) (D : va_G) (T : Nat → ClassId) (m0 : Nat) (a : Nat → Nat) (p0 : Int32) (r : Nat → Int32) (q : Nat → Nat → Int32) (P : Int32 → RST → Prop) (h : wp_X11_searched P p0 r q) : RMi l yX11_searched (ws_X11_searched) rm_X11_searched D T m0 a [.ref m0, .int p0] r q P := gr_meti (by decide) rfl rfl (Nat.le_of_ble_eq_true rfl) (fun p e s m args below meth c A C hr => t_X11_searched C hr P p0 r q h)
theorem k_X11_searched (l : Launch) (D : va_G) (T : Nat → ClassId) (m0 : Nat) (a : Nat → Nat) (p0 : Int32) (r : Nat → Int32) (q : Nat → Nat → Int32) (h : WF (q 0)) : RMi l yX11_searched (ws_X11_searched) rm_X11_searched D T m0 a [.ref m0, .int p0] r q (fun v u => (kQ q u.2 [7, 8, 9, 10] ∧ kR r u.1 SC ∧ u.1 6 = conC (q 0) p0 6 ∧ (conC (q 0) p0 6 = 0 → v = (dpZ (ttF (q 0)) (iv p0)).1 (iv p0)))) := c_X11_searched l D T m0 a p0 r q _ <|
  (by
    have hw := h
    unfold wp_X11_searched
    refine ⟨⟨hw, ⟨6, by decide, rfl⟩⟩, fun v1 r2 q3 hh => ?_⟩
    obtain ⟨a1, a2, a3⟩ := hh
    subst a3
    rw [show iv 6 = 6 from rfl] at a1
    have k2 : kR r r2 SC := by rw [a2]; exact kR.rf.up (by decide) _
    refine fun r5 e5 => ?_
    have k5 : kR r r5 SC := by rw [e5]; exact k2.up (by decide) _
    have s5 : r5 6 = lckF (q3 0) p0 6 := by rw [e5, va_up_self, a1]
    rw [s5, lck_p]
    refine ⟨fun c => ⟨fun z9 => absurd z9 c, fun _ => ?_⟩, fun c => ?_⟩
    · have hC : conC (q3 0) p0 6 = lckF (q3 0) p0 6 := by unfold conC; rw [if_neg c]
      refine ⟨kQ.rf, k5, ?_, fun z9 => absurd (hC.symm.trans z9) c⟩
      dsimp only; rw [hC, s5]
    · have hg := lck_0 hw c
      obtain ⟨n, hn, h0, en, ien⟩ := hg.n
      refine ⟨⟨hw, hg⟩, fun v7 r8 q9 hh => ?_⟩
      obtain ⟨b1, b2, b3, b4⟩ := hh
      subst b1
      have k8 : kR r r8 SC := k5.tr b2 (fun _ h => h) (by decide)
      have s8 : r8 6 = 0 := by rw [b2 6 (by decide), s5, c]
      cases hr : rfF (q9 0) (iv p0) with
      | none =>
        rw [hr] at b3
        have hC : conC (q9 0) p0 6 = 0 := by unfold conC; rw [if_pos c, hr]
        have hsg : sgO (q9 0) (iv p0) := by rw [ien] at hr ⊢; exact sgO_of hw (by rw [← en]; exact hg) hn hr
        refine ⟨fun _ => ⟨fun _ => ⟨⟨hw, hg, hsg⟩, fun r13 q14 hl => ?_⟩, fun z9 => absurd (by rw [s8]; decide) z9⟩, fun z9 => absurd b3 z9⟩
        obtain ⟨l1, l2, l3, l4⟩ := hl
        rw [en, nz_vp (by omega) (by decide), nI_clamp (n := n) (by omega)]
        rw [ien] at l3 l4
        rw [en] at hC
        have k13 : kR r r13 SC := k8.tr l2 (fun _ h => h) (by decide)
        refine ⟨by omega, l1, k13, ?_, fun _ => ?_⟩
        · dsimp only; rw [hC, l2 6 (by decide), s8]
        · (try dsimp only); rw [show iv (nI n) = n from nI_clamp (by omega)]; exact (l4 n (sub_rf n)).1
      | some s =>
        rw [hr] at b3
        have hC : conC (q9 0) p0 6 = 3 := by unfold conC; rw [if_pos c, hr]
        refine ⟨fun z9 => absurd (show (1 : Int32) = 0 from b3.symm.trans z9) (by decide), fun _ r22 e22 => ⟨fun z9 => absurd z9 (by rw [e22, va_up_self]; decide), fun _ => ⟨kQ.rf, by dsimp only; rw [e22]; exact k8.up (by decide) _, ?_, fun z9 => absurd (hC.symm.trans z9) (by decide)⟩⟩⟩
        dsimp only; rw [hC, e22, va_up_self])
abbrev ws_X11_group : List Cond := Cond.code yX11_group cX11_group 5 (some .int) :: W0
abbrev rm_X11_group : Room := ({ frames := 8, cells := 0, slots := 0, locals := 183 } : Room)
def wb_X11_group_84 (rec : Int32 → Int32 → Int32 → (Nat → Int32) → (Nat → Nat → Int32) → Prop) (P : Int32 → RST → Prop) (x2 : Int32) (x3 : Int32) (x4 : Int32) (r : Nat → Int32) (q : Nat → Nat → Int32) : Prop := (x2 ≤ x4 → (vp_in x3 1024 ∧ (P (q 10 (Int32.toNatClampNeg x3)) (r, q)))) ∧ (¬ x2 ≤ x4 → (vp_in x3 1024 ∧ (∀ v18 : Int32, v18 = (x3 &&& ((q 10 (Int32.toNatClampNeg x3)) ^^^ (-1))) → (∀ v19 : Int32, v19 = x4 + 1 → (rec x2 v18 v19 r q)))))
def wp_X11_group_84 (P : Int32 → RST → Prop) : Nat → Int32 → Int32 → Int32 → (Nat → Int32) → (Nat → Nat → Int32) → Prop
  | 0 => fun _ _ _ _ _ => False
  | n + 1 => fun x2 x3 x4 r q => wb_X11_group_84 (wp_X11_group_84  P n)  P x2 x3 x4 r q
set_option maxRecDepth 100000 in
set_option maxHeartbeats 4000000 in
theorem t_X11_group_84 {p : Program} {l : Launch} {e : Env} {s : State} {m : MethodId} {args : Array Value} {below : List Frame} {meth : Method} {c : Code} {D : va_G} {A : Nat → Prop} {T : Nat → ClassId} {m0 : Nat} {a : Nat → Nat} (C : GC p s m args meth c cX11_group "FreightRaterModel" (ws_X11_group) 5 D A (zty T)) (hr : meth.sig.returnType = (some .int)) (P : Int32 → RST → Prop) : ∀ (n : Nat) (x2 : Int32) (x3 : Int32) (x4 : Int32) (r : Nat → Int32) (q : Nat → Nat → Int32), wp_X11_group_84  P n x2 x3 x4 r q → GW p l e rm_X11_group s m args below meth c D A 5 0 0 (MQ below (va_Qi P (RE D T m0 a A) A) args s 0 0 A) (RW m0 a T r q) 0 0 84 [(0, .ref m0), (2, .int x2), (3, .int x3), (4, .int x4)] [] := by
  have hw : ∀ {w : Cond}, w ∈ W0 → w.before args s = true := fun h => C.2.2.2.2.1 _ (List.mem_cons_of_mem _ h)
  intro n
  induction n with
  | zero => intro x2 x3 x4 r q h; exact h.elim
  | succ n ih =>
    intro x2 x3 x4 r q h
    replace h : wb_X11_group_84 (wp_X11_group_84  P n)  P x2 x3 x4 r q := h
    unfold wb_X11_group_84 at h
    refine g_iload C dX11_group_84 3 rfl ?_
    refine g_iload_n C dX11_group_86 rfl 1 rfl ?_
    refine g_icmp_ge (tgt := 107) C dX11_group_87 (by decide) (fun z15 => ?_) (fun z15 => ?_)
    · replace h := h.1 z15
      refine g_aload_n C dX11_group_107 rfl 0 rfl ?_
      refine gr_get C iwx_X11 34 (hw kw_1843) (by decide) rfl rfl dX11_group_108 ?_
      refine g_iload_n C dX11_group_111 rfl 2 rfl ?_
      obtain ⟨g16, h⟩ := h
      refine gr_ald_10 C g16 dX11_group_112 ?_
      exact gr_iret C hr dX11_group_113 h
    · replace h := h.2 z15
      refine g_iload_n C dX11_group_90 rfl 2 rfl ?_
      refine g_aload_n C dX11_group_91 rfl 0 rfl ?_
      refine gr_get C iwx_X11 34 (hw kw_1843) (by decide) rfl rfl dX11_group_92 ?_
      refine g_iload_n C dX11_group_95 rfl 2 rfl ?_
      obtain ⟨g17, h⟩ := h
      refine gr_ald_10 C g17 dX11_group_96 ?_
      refine g_iconst (v := -1) C dX11_group_97 (by decide) ?_
      refine g_ixor C dX11_group_98 ?_
      refine g_iand C dX11_group_99 ?_
      refine g_topi (fun v18 ev18 => ?_)
      replace h := h v18 ev18
      refine g_istore_n (lv' := [(3, .int v18), (0, .ref m0), (2, .int x2), (4, .int x4)]) C dX11_group_100 rfl (by decide) rfl ?_
      obtain ⟨v19, ev19⟩ : ∃ y : Int32, y = x4 + 1 := ⟨_, rfl⟩
      replace h := h v19 ev19
      refine g_iinc (v := v19) (lv' := [(4, .int v19), (3, .int v18), (0, .ref m0), (2, .int x2)]) C dX11_group_101 (j := 3) rfl (by rw [ev19]; rfl) (by decide) rfl ?_
      refine g_goto (tgt := 84) C dX11_group_104 (by decide) ?_
      refine g_locals [2, 3, 1, 0] rfl ?_
      exact ih x2 v18 v19 r q h
def wp_X11_group_31 (P : Int32 → RST → Prop) (x1 : Int32) (x2 : Int32) (r : Nat → Int32) (q : Nat → Nat → Int32) : Prop := ((r 6) ≤ 0 → ((WF (q 0) ∧ gok (q 0) x1 ∧ sgO (q 0) (iv x1)) ∧ (∀ (r9 : Nat → Int32) (q10 : Nat → Nat → Int32), (lbP r q (iv x1) r9 q10) → ((¬ x2 = (-1) → (vp_in x1 1024 ∧ ((¬ (zin x2 0 ((q10 9 (Int32.toNatClampNeg x1)) - 1)) = 0 → (∃ k20 : Nat, wp_X11_group_84  P k20 x2 x1 0 r9 q10)) ∧ ((zin x2 0 ((q10 9 (Int32.toNatClampNeg x1)) - 1)) = 0 → (∀ (v21 : Int32) (r22 : Nat → Int32) (q23 : Nat → Nat → Int32), (v21 = 0 ∧ r22 = va_up r9 6 4 ∧ q23 = q10) → (P v21 (r22, q23))))))) ∧ (x2 = (-1) → (vp_in x1 1024 ∧ (P (q10 9 (Int32.toNatClampNeg x1)) (r9, q10)))))))) ∧ (¬ (r 6) ≤ 0 → (P 0 (r, q)))
set_option maxRecDepth 100000 in
set_option maxHeartbeats 4000000 in
theorem t_X11_group_31 {p : Program} {l : Launch} {e : Env} {s : State} {m : MethodId} {args : Array Value} {below : List Frame} {meth : Method} {c : Code} {D : va_G} {A : Nat → Prop} {T : Nat → ClassId} {m0 : Nat} {a : Nat → Nat} (C : GC p s m args meth c cX11_group "FreightRaterModel" (ws_X11_group) 5 D A (zty T)) (hr : meth.sig.returnType = (some .int)) (P : Int32 → RST → Prop) : ∀ (x1 : Int32) (x2 : Int32) (r : Nat → Int32) (q : Nat → Nat → Int32), wp_X11_group_31  P x1 x2 r q → GW p l e rm_X11_group s m args below meth c D A 5 0 0 (MQ below (va_Qi P (RE D T m0 a A) A) args s 0 0 A) (RW m0 a T r q) 0 0 31 [(0, .ref m0), (1, .int x1), (2, .int x2)] [] := by
  have hw : ∀ {w : Cond}, w ∈ W0 → w.before args s = true := fun h => C.2.2.2.2.1 _ (List.mem_cons_of_mem _ h)
  intro x1 x2 r q h
  unfold wp_X11_group_31 at h
  refine g_aload_n C dX11_group_31 rfl 0 rfl ?_
  refine gr_get C iwx_X11 6 (hw kw_1815) (by decide) rfl rfl dX11_group_32 ?_
  refine g_if_le (tgt := 40) C dX11_group_35 (by decide) (fun z7 => ?_) (fun z7 => ?_)
  · replace h := h.1 z7
    refine g_aload_n C dX11_group_40 rfl 0 rfl ?_
    refine g_iload_n C dX11_group_41 rfl 1 rfl ?_
    obtain ⟨g11, h⟩ := h
    refine gr_callvV C [.int x1] rfl (k_X11_layBest l D T m0 a x1 r q g11) (w0_V 1 C.2.2.2.2.1 kw_2255 kw_2257 ks_98 kw_9 kw_2258 rfl rfl (by decide +kernel) ⟨by decide, by decide⟩) rfl (Nat.le_of_ble_eq_true rfl) (Nat.zero_le _) (Nat.zero_le _) dX11_group_42 (fun r9 q10 hp => ?_)
    replace h := h r9 q10 hp
    refine g_iload_n C dX11_group_45 rfl 2 rfl ?_
    refine g_iconst (v := -1) C dX11_group_46 (by decide) ?_
    refine g_icmp_ne (tgt := 57) C dX11_group_47 (by decide) (fun z12 => ?_) (fun z12 => ?_)
    · replace h := h.1 z12
      refine g_iload_n C dX11_group_57 rfl 2 rfl ?_
      refine g_iconst (v := 0) C dX11_group_58 (by decide) ?_
      refine g_aload_n C dX11_group_59 rfl 0 rfl ?_
      refine gr_get C iwx_X11 33 (hw kw_1842) (by decide) rfl rfl dX11_group_60 ?_
      refine g_iload_n C dX11_group_63 rfl 1 rfl ?_
      obtain ⟨g13, h⟩ := h
      refine gr_ald_9 C g13 dX11_group_64 ?_
      refine g_iconst (v := 1) C dX11_group_65 (by decide) ?_
      refine g_isub C dX11_group_66 ?_
      refine gr_callSf C [.int x2, .int 0, .int ((q10 9 (Int32.toNatClampNeg x1)) - 1)] rfl (k_X11_in l D T m0 a x2 0 ((q10 9 (Int32.toNatClampNeg x1)) - 1) r9 q10) (w0_S 3 C.2.2.2.2.1 kw_1944 kw_1945 kw_9 kw_1946 rfl rfl (by decide +kernel) ⟨by decide, by decide⟩) rfl (Nat.le_of_ble_eq_true rfl) (Nat.zero_le _) (Nat.zero_le _) dX11_group_67 ?_
      refine g_if_ne (tgt := 79) C dX11_group_70 (by decide) (fun z14 => ?_) (fun z14 => ?_)
      · replace h := h.1 z14
        refine g_iload_n C dX11_group_79 rfl 1 rfl ?_
        refine g_istore_n (lv' := [(3, .int x1), (0, .ref m0), (1, .int x1), (2, .int x2)]) C dX11_group_80 rfl (by decide) rfl ?_
        refine g_iconst (v := 0) C dX11_group_81 (by decide) ?_
        refine g_istore (lv' := [(4, .int 0), (3, .int x1), (0, .ref m0), (1, .int x1), (2, .int x2)]) C dX11_group_82 (by decide) rfl ?_
        refine g_locals [2, 4, 1, 0] rfl ?_
        obtain ⟨k20, h⟩ := h
        refine t_X11_group_84 C hr  P  k20 x2 x1 0 r9 q10 h
      · replace h := h.2 z14
        refine g_aload_n C dX11_group_73 rfl 0 rfl ?_
        refine g_iconst (v := 4) C dX11_group_74 (by decide) ?_
        refine gr_calliV C [.int 4] rfl (k_X11_refuse l D T m0 a 4 r9 q10) (w0_V 1 C.2.2.2.2.1 kw_1950 kw_1952 ks_50 kw_9 kw_1953 rfl rfl (by decide +kernel) ⟨by decide, by decide⟩) rfl (Nat.le_of_ble_eq_true rfl) (Nat.zero_le _) (Nat.zero_le _) dX11_group_75 (fun v21 r22 q23 hp => ?_)
        replace h := h v21 r22 q23 hp
        exact gr_iret C hr dX11_group_78 h
    · replace h := h.2 z12
      refine g_aload_n C dX11_group_50 rfl 0 rfl ?_
      refine gr_get C iwx_X11 33 (hw kw_1842) (by decide) rfl rfl dX11_group_51 ?_
      refine g_iload_n C dX11_group_54 rfl 1 rfl ?_
      obtain ⟨g24, h⟩ := h
      refine gr_ald_9 C g24 dX11_group_55 ?_
      exact gr_iret C hr dX11_group_56 h
  · replace h := h.2 z7
    refine g_iconst (v := 0) C dX11_group_38 (by decide) ?_
    exact gr_iret C hr dX11_group_39 h
def wp_X11_group (P : Int32 → RST → Prop) (p0 : Int32) (p1 : Int32) (r : Nat → Int32) (q : Nat → Nat → Int32) : Prop := (WF (q 0) ∧ rix 8) ∧ (∀ (v1 : Int32) (r2 : Nat → Int32) (q3 : Nat → Nat → Int32), (v1 = lckF (q 0) p0 (iv 8) ∧ r2 = va_up r 35 0 ∧ q3 = q) → (∀ r5 : Nat → Int32, r5 = va_up r2 6 v1 → ((¬ (r5 6) = 0 → (wp_X11_group_31  P p0 p1 r5 q3)) ∧ ((r5 6) = 0 → ((WF (q3 0) ∧ gok (q3 0) p0) ∧ (∀ (v25 : Int32) (r26 : Nat → Int32) (q27 : Nat → Nat → Int32), (q27 = q3 ∧ kR r5 r26 [17, 18, 19, 20, 21, 22, 23, 35] ∧ v25 = (match rfF (q3 0) (iv p0) with | none => 0 | some _ => 1) ∧ ∀ s, rfF (q3 0) (iv p0) = some s → r26 35 = nI (rsnD (q3 0) (2 ^ s)).1 ∧ r26 17 = (rsnD (q3 0) (2 ^ s)).2) → ((v25 = 0 → (wp_X11_group_31  P p0 p1 r26 q27)) ∧ (¬ v25 = 0 → (∀ r30 : Nat → Int32, r30 = va_up r26 6 3 → (wp_X11_group_31  P p0 p1 r30 q27))))))))))
set_option maxRecDepth 100000 in
set_option maxHeartbeats 4000000 in
theorem t_X11_group {p : Program} {l : Launch} {e : Env} {s : State} {m : MethodId} {args : Array Value} {below : List Frame} {meth : Method} {c : Code} {D : va_G} {A : Nat → Prop} {T : Nat → ClassId} {m0 : Nat} {a : Nat → Nat} (C : GC p s m args meth c cX11_group "FreightRaterModel" (ws_X11_group) 5 D A (zty T)) (hr : meth.sig.returnType = (some .int)) (P : Int32 → RST → Prop) : ∀ (p0 : Int32) (p1 : Int32) (r : Nat → Int32) (q : Nat → Nat → Int32), wp_X11_group P p0 p1 r q → GW p l e rm_X11_group s m args below meth c D A 5 0 0 (MQ below (va_Qi P (RE D T m0 a A) A) args s 0 0 A) (RW m0 a T r q) 0 0 0 [(0, .ref m0), (1, .int p0), (2, .int p1)] [] := by
  have hw : ∀ {w : Cond}, w ∈ W0 → w.before args s = true := fun h => C.2.2.2.2.1 _ (List.mem_cons_of_mem _ h)
  intro p0 p1 r q h
  unfold wp_X11_group at h
  refine g_aload_n C dX11_group_0 rfl 0 rfl ?_
  refine g_aload_n C dX11_group_1 rfl 0 rfl ?_
  refine g_iload_n C dX11_group_2 rfl 1 rfl ?_
  refine g_bipush (v := 8) C dX11_group_3 (by decide) ?_
  obtain ⟨g4, h⟩ := h
  refine gr_calliV C [.int p0, .int 8] rfl (k_X11_lacks l D T m0 a p0 8 r q g4) (w0_V 2 C.2.2.2.2.1 kw_2247 kw_2249 ks_96 kw_9 kw_2250 rfl rfl (by decide +kernel) ⟨by decide, by decide⟩) rfl (Nat.le_of_ble_eq_true rfl) (Nat.zero_le _) (Nat.zero_le _) dX11_group_5 (fun v1 r2 q3 hp => ?_)
  replace h := h v1 r2 q3 hp
  refine gr_put_6 C iwx_X11 (hw kw_1815) dX11_group_8 ?_
  refine gr_nr (fun r5 er5 => ?_)
  replace h := h r5 er5
  refine g_aload_n C dX11_group_11 rfl 0 rfl ?_
  refine gr_get C iwx_X11 6 (hw kw_1815) (by decide) rfl rfl dX11_group_12 ?_
  refine g_if_ne (tgt := 31) C dX11_group_15 (by decide) (fun z6 => ?_) (fun z6 => ?_)
  · replace h := h.1 z6
    refine g_locals [0, 1, 2] rfl ?_
    refine t_X11_group_31 C hr  P  p0 p1 r5 q3 h
  · replace h := h.2 z6
    refine g_aload_n C dX11_group_18 rfl 0 rfl ?_
    refine g_iload_n C dX11_group_19 rfl 1 rfl ?_
    obtain ⟨g28, h⟩ := h
    refine gr_calliV C [.int p0] rfl (k_X11_hasRefused l D T m0 a p0 r5 q3 g28) (w0_V 1 C.2.2.2.2.1 kw_2251 kw_2253 ks_97 kw_9 kw_2254 rfl rfl (by decide +kernel) ⟨by decide, by decide⟩) rfl (Nat.le_of_ble_eq_true rfl) (Nat.zero_le _) (Nat.zero_le _) dX11_group_20 (fun v25 r26 q27 hp => ?_)
    replace h := h v25 r26 q27 hp
    refine g_if_eq (tgt := 31) C dX11_group_23 (by decide) (fun z29 => ?_) (fun z29 => ?_)
    · replace h := h.1 z29
      refine g_locals [0, 1, 2] rfl ?_
      refine t_X11_group_31 C hr  P  p0 p1 r26 q27 h
    · replace h := h.2 z29
      refine g_aload_n C dX11_group_26 rfl 0 rfl ?_
      refine g_iconst (v := 3) C dX11_group_27 (by decide) ?_
      refine gr_put_6 C iwx_X11 (hw kw_1815) dX11_group_28 ?_
      refine gr_nr (fun r30 er30 => ?_)
      replace h := h r30 er30
      refine g_locals [0, 1, 2] rfl ?_
      refine t_X11_group_31 C hr  P  p0 p1 r30 q27 h
theorem c_X11_group (l : Launch) (D : va_G) (T : Nat → ClassId) (m0 : Nat) (a : Nat → Nat) (p0 : Int32) (p1 : Int32) (r : Nat → Int32) (q : Nat → Nat → Int32) (P : Int32 → RST → Prop) (h : wp_X11_group P p0 p1 r q) : RMi l yX11_group (ws_X11_group) rm_X11_group D T m0 a [.ref m0, .int p0, .int p1] r q P := gr_meti (by decide) rfl rfl (Nat.le_of_ble_eq_true rfl) (fun p e s m args below meth c A C hr => t_X11_group C hr P p0 p1 r q h)
theorem rl_gr {P : Int32 → RST → Prop} {r : Nat → Int32} {q : Nat → Nat → Int32} {T : Nat → Int32} {t : T3} {n c i : Nat} (hn : n < 1024) (hQ : ∀ p, 0 < p → sub p n → dpQ T t p) (h0 : t.2.1 0 = 0) (hq : ∀ p, sub p n → 0 < p → q 10 p = t.2.2 p) (hi : i < c) (hc : c ≤ 1024) (hP : P (t.2.2 (gpL t.2.2 i n)) (r, q)) : ∀ (k j left fuel : Nat), j + k = i → k < fuel → sub left n → t.2.1 left = nI (c - j) → gpL t.2.2 k left = gpL t.2.2 i n → wp_X11_group_84 P fuel (nI i) (nI left) (nI j) r q := by
  have pos : ∀ left j : Nat, j ≤ i → t.2.1 left = nI (c - j) → 0 < left := fun left j hj hl => by
    rcases Nat.eq_zero_or_pos left with e | e
    · subst e
      rw [h0] at hl
      have := (nI_eq (a := 0) (b := c - j) (by decide) (by omega)).mp hl
      omega
    · exact e
  intro k
  induction k with
  | zero =>
    intro j left fuel hj hf hs hl hg
    have hp := pos left j (by omega) hl
    have hlt : left < 1024 := Nat.lt_of_le_of_lt (sub_le hs) hn
    obtain ⟨f, rfl⟩ : ∃ f, fuel = f + 1 := ⟨fuel - 1, by omega⟩; rw [wp_X11_group_84]; unfold wb_X11_group_84; dsimp only
    rw [nI_leI (by omega) (by omega), nz_vp (by omega) (by decide), nI_clamp (n := left) (by omega)]
    refine ⟨fun _ => ⟨hlt, ?_⟩, fun z9 => absurd (by omega) z9⟩
    rw [hq left hs hp]
    have : left = gpL t.2.2 i n := hg
    rw [this]
    exact hP
  | succ k ih =>
    intro j left fuel hj hf hs hl hg
    have hp := pos left j (by omega) hl
    have hlt : left < 1024 := Nat.lt_of_le_of_lt (sub_le hs) hn
    obtain ⟨g, g0, g1, g2, g3, g4, g5, g6⟩ := hQ left hp hs
    have hgl := sub_le g1
    obtain ⟨f, rfl⟩ : ∃ f, fuel = f + 1 := ⟨fuel - 1, by omega⟩; rw [wp_X11_group_84]; unfold wb_X11_group_84; dsimp only
    rw [nI_leI (by omega) (by omega), nz_vp (by omega) (by decide), nI_clamp (n := left) (by omega)]
    refine ⟨fun z9 => absurd z9 (by omega), fun _ => ⟨hlt, fun v17 e17 v18 e18 => ?_⟩⟩
    rw [hq left hs hp, g6, nI_dif] at e17
    rw [nI_1] at e18
    subst e17 e18
    refine ih (j + 1) (dif left g) f (by omega) (by omega) (sub_tr (sub_dif left g) hs) ?_ ?_
    · have hdl := sub_le (sub_dif left g)
      obtain ⟨c', hc', ec', _⟩ := cnt_ok hQ hn h0 1024 (dif left g) (Nat.lt_of_le_of_lt (sub_le (sub_dif left g)) hlt) (sub_tr (sub_dif left g) hs)
      rw [hl, ec', show (1 : Int32) = nI 1 from rfl, nI_add] at g5
      have := (nI_eq (a := c - j) (b := 1 + c') (by omega) (by omega)).mp g5
      rw [ec']
      congr 1
      omega
    · rw [gpL, g6, show iv (nI g) = g from nI_clamp (by omega)] at hg
      exact hg
theorem k_X11_group (l : Launch) (D : va_G) (T : Nat → ClassId) (m0 : Nat) (a : Nat → Nat) (p0 : Int32) (p1 : Int32) (r : Nat → Int32) (q : Nat → Nat → Int32) (h : WF (q 0)) : RMi l yX11_group (ws_X11_group) rm_X11_group D T m0 a [.ref m0, .int p0, .int p1] r q (fun v u => (kQ q u.2 [7, 8, 9, 10] ∧ kR r u.1 SC ∧ u.1 6 = grC (q 0) p0 p1 ∧ (grC (q 0) p0 p1 = 0 → v = grA (q 0) (iv p0) p1))) := c_X11_group l D T m0 a p0 p1 r q _ <|
  (by
    have hw := h
    unfold wp_X11_group
    refine ⟨⟨hw, ⟨8, by decide, rfl⟩⟩, fun v1 r2 q3 hh => ?_⟩
    obtain ⟨a1, a2, a3⟩ := hh
    subst a3
    rw [show iv 8 = 8 from rfl] at a1
    have k2 : kR r r2 SC := by rw [a2]; exact kR.rf.up (by decide) _
    refine fun r5 e5 => ?_
    have k5 : kR r r5 SC := by rw [e5]; exact k2.up (by decide) _
    have s5 : r5 6 = lckF (q3 0) p0 8 := by rw [e5, va_up_self, a1]
    -- a code
    have bad : ∀ (r6 : Nat → Int32) (c : Int32), kR r r6 SC → r6 6 = c → conC (q3 0) p0 8 = c → ¬ c ≤ 0 → wp_X11_group_31 (fun v u => kQ q3 u.2 [7, 8, 9, 10] ∧ kR r u.1 SC ∧ u.1 6 = grC (q3 0) p0 p1 ∧ (grC (q3 0) p0 p1 = 0 → v = grA (q3 0) (iv p0) p1)) p0 p1 r6 q3 := by
      intro r6 c k6 s6 hC hc
      have hc0 : ¬ conC (q3 0) p0 8 = 0 := fun z9 => hc (by rw [← hC, z9]; decide)
      have hG : grC (q3 0) p0 p1 = c := by unfold grC; rw [if_neg hc0, hC]
      unfold wp_X11_group_31
      refine ⟨fun z9 => absurd (by rw [← s6]; exact z9) hc, fun _ => ⟨kQ.rf, k6, by dsimp only; rw [hG, s6], fun z9 => ?_⟩⟩
      rw [hG] at z9
      exact absurd (by rw [z9]; decide) hc
    rw [s5]
    refine ⟨fun c => bad r5 _ k5 s5 (by unfold conC; rw [if_neg c]) (by rw [lck_p]; exact c), fun c => ?_⟩
    have hg := lck_0 hw c
    obtain ⟨n, hn, h0, en, ien⟩ := hg.n
    refine ⟨⟨hw, hg⟩, fun v7 r8 q9 hh => ?_⟩
    obtain ⟨b1, b2, b3, b4⟩ := hh
    subst b1
    have k8 : kR r r8 SC := k5.tr b2 (fun _ h => h) (by decide)
    have s8 : r8 6 = 0 := by rw [b2 6 (by decide), s5, c]
    cases hr : rfF (q9 0) (iv p0) with
    | some s =>
      rw [hr] at b3
      have hC : conC (q9 0) p0 8 = 3 := by unfold conC; rw [if_pos c, hr]
      refine ⟨fun z9 => absurd (show (1 : Int32) = 0 from b3.symm.trans z9) (by decide), fun _ r29 e29 => bad r29 3 (by rw [e29]; exact k8.up (by decide) _) (by rw [e29, va_up_self]) hC (by decide)⟩
    | none =>
      rw [hr] at b3
      have hC : conC (q9 0) p0 8 = 0 := by unfold conC; rw [if_pos c, hr]
      have hsg : sgO (q9 0) (iv p0) := by rw [ien] at hr ⊢; exact sgO_of hw (by rw [← en]; exact hg) hn hr
      refine ⟨fun _ => ?_, fun z9 => absurd b3 z9⟩
      unfold wp_X11_group_31
      refine ⟨fun _ => ⟨⟨hw, hg, hsg⟩, fun r9 q10 hl => ?_⟩, fun z9 => absurd (by rw [s8]; decide) z9⟩
      obtain ⟨l1, l2, l3, l4⟩ := hl
      subst en
      rw [ien] at l3 l4 hsg
      have k9 : kR r r9 SC := k8.tr l2 (fun _ h => h) (by decide)
      have s9 : r9 6 = 0 := by rw [l2 6 (by decide), s8]
      have hmany := (l4 n (sub_rf n)).2.1
      have hQ : ∀ p, 0 < p → sub p n → dpQ (ttF (q9 0)) (dpZ (ttF (q9 0)) n) p := fun p hp hs => dp_ok hn hsg _ n p (sub_le hs) hp hs
      have hz0 : (dpZ (ttF (q9 0)) n).2.1 0 = 0 := (dp_0 n).2
      obtain ⟨cn, hcn, ecn, hcn0⟩ := cnt_ok hQ hn hz0 1024 n hn (sub_rf n)
      rw [nz_vp (by omega) (by decide), nI_clamp (n := n) (by omega), hmany]
      refine ⟨fun c1 => ⟨hn, fun c2 => ?_, fun c2 v20 r21 q22 hk => ?_⟩, fun c1 => ⟨hn, l1, k9, ?_, fun _ => ?_⟩⟩
      · have hG : grC (q9 0) (nI n) p1 = 0 := by unfold grC; rw [if_pos hC, if_neg c1, ien, if_neg c2]
        rw [ecn] at c2
        obtain ⟨i, hi, ei⟩ := zin_m (by omega) c2
        subst ei
        refine ⟨3000, rl_gr (T := ttF (q9 0)) (t := dpZ (ttF (q9 0)) n) (n := n) (c := cn) (i := i) hn hQ hz0 (fun p hs hp => (l4 p hs).2.2 hp) hi (by omega) ?_ i 0 n 3000 (by omega) (by omega) (sub_rf n) ecn rfl⟩
        refine ⟨l1, k9, by dsimp only; rw [hG, s9], fun _ => ?_⟩
        unfold grA
        rw [if_neg c1, ien, show iv (nI i) = i from nI_clamp (by omega)]
      · obtain ⟨d1, d2, d3⟩ := hk
        subst d3
        have hG : grC (q9 0) (nI n) p1 = 4 := by unfold grC; rw [if_pos hC, if_neg c1, ien, if_pos c2]
        refine ⟨l1, by dsimp only; rw [d2]; exact k9.up (by decide) _, by dsimp only; rw [hG, d2, va_up_self], fun z9 => absurd (hG.symm.trans z9) (by decide)⟩
      · (try dsimp only)
        unfold grC
        rw [if_pos hC, if_pos c1, s9]
      · (try dsimp only)
        unfold grA
        rw [if_pos c1, ien])

end S_RSS
