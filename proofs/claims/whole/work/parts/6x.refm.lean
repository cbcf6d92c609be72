section S_REFM
section REFD
variable {p : Program} {l : Launch} {e : Env} {R : Room} {s : State} {m : MethodId} {args : Array Value} {below : List Frame} {meth : Method} {c : Code} {D : va_G} {A : Nat → Prop} {nL KC KS : Nat} {Q : State → Prop}
variable {kc ks pc : Nat} {lv : List (Nat × Value)} {st : List Value} {cc : ByteArray} {own : String} {Ts : List Cond} {T : Nat → ClassId} {m0 : Nat} {a : Nat → Nat} {r : Nat → Int32} {q : Nat → Nat → Int32}
def RMd (l : Launch) (y : MethodName) (ws : List Cond) (rm : Room) (D : va_G) (T : Nat → ClassId) (m0 : Nat) (a : Nat → Nat) (As : List Value) (r : Nat → Int32) (q : Nat → Nat → Int32) (post : UInt64 → RST → Prop) : Prop := ∀ sz : Nat, Met l y ws rm (va_Pc As (RB D T m0 a sz r q)) (va_Qd post (RE D T m0 a (va_A (RW m0 a T r q) sz)) (va_A (RW m0 a T r q) sz)) 0 0 (va_A (RW m0 a T r q) sz)
theorem gr_dret (C : GC p s m args meth c cc own Ts nL D A (zty T)) {post : UInt64 → RST → Prop} {v : UInt64} (hr : meth.sig.returnType = some .double) (hdg : decode cc pc = .ok (.dreturn, 1)) (hp : post v (r, q)) : GW p l e R s m args below meth c D A nL KC KS (MQ below (va_Qd post (RE D T m0 a A) A) args s KC KS A) (RW m0 a T r q) kc ks pc lv [.double v] := fun H locs cells slots ls hP hD hS hl hc hs => W.widen (k := KC) (n := KS) (by omega) (by omega) (W.dret (v := v) C.1 C.2.1 hr (fun t ht hW => ⟨⟨v, (r, q), rfl, hp, by rw [ht]; exact hP, va_K.moved hW.alike C.2.2.2.2.2.1, hD⟩, hS.F ht⟩) hS.2.2 hdg C.2.2.2.2.2.2.2)
theorem gr_metd {y : MethodName} {ws' : List Cond} {rmY : Room} {maxL : Nat} {ret : Option FieldType} {As : List Value} {post : UInt64 → RST → Prop} (hy : plainName y.cls = true) (hcls : y.cls = own) (hw : Ts = Cond.code y cc maxL ret :: ws') (hlen : (lg_sl As).length ≤ maxL) (body : ∀ (p : Program) (e : Env) (s : State) (m : MethodId) (args : Array Value) (below : List Frame) (meth : Method) (c : Code) (A : Nat → Prop), GC p s m args meth c cc own Ts maxL D A (zty T) → meth.sig.returnType = ret → GW p l e rmY s m args below meth c D A maxL 0 0 (MQ below (va_Qd post (RE D T m0 a A) A) args s 0 0 A) (RW m0 a T r q) 0 0 0 (lv_args 0 As) []) : RMd l y Ts rmY D T m0 a As r q post := by
  intro sz
  refine Met.ofW (cc := cc) (maxL := maxL) (ret := ret) hy hw ?_
  intro p e s m args below meth c s₁ B hml hv
  obtain ⟨rfl, hsz, hP, hK, hD0⟩ := hv
  have hts := atoms_spec (ws := Ts) B.pre
  have hown : s.vm.findClass own = some m.cls := by rw [← hcls]; exact findClass_of_methodNamed B.named
  subst hsz
  have hD := hD0.self (sz := s.heap.size)
  have hA : ∀ x : Nat, s.heap.size ≤ x → va_A (RW m0 a T r q) s.heap.size x := fun x h => Or.inr h
  have hl := lv_entry As (n := maxL) hlen
  rw [lg_entry_eq]
  generalize (lg_sl As ++ List.replicate (maxL - (lg_sl As).length) Slot.unset).toArray = ls at hl ⊢
  exact body p e s m As.toArray below meth c _ ⟨B.exec, B.bytes, hml, hown, hts, hK, hA, B.notSynchronized⟩ B.returns s.heap [] 0 0 ls hP hD va_S.rf hl (Nat.le_refl _) (Nat.le_refl _)
end REFD
abbrev ws_X11_meanPrice : List Cond := Cond.code yX11_meanPrice cX11_meanPrice 2 (some .double) :: W0
abbrev rm_X11_meanPrice : Room := ({ frames := 6, cells := 0, slots := 0, locals := 139 } : Room)
def wp_X11_meanPrice (P : UInt64 → RST → Prop) (p0 : Int32) (r : Nat → Int32) (q : Nat → Nat → Int32) : Prop := (¬ (grpF (q 0) p0) = 0 → ((WF (q 0) ∧ gok (q 0) p0) ∧ (∀ (v2 : Int32) (r3 : Nat → Int32) (q4 : Nat → Nat → Int32), (v2 = nI (rsnD (q 0) (iv p0)).1 ∧ q4 = q ∧ kR r r3 [17, 18, 19, 20, 21, 22, 23] ∧ (¬ (rsnD (q 0) (iv p0)).1 = 0 → r3 17 = (rsnD (q 0) (iv p0)).2) ∧ ((rsnD (q 0) (iv p0)).1 = 0 → r3 18 = gvF (q 0) (iv p0) ∧ r3 19 = gzF (q 0) (iv p0) ∧ r3 20 = wtF (q 0) (iv (gvF (q 0) (iv p0))) (iv p0) ∧ r3 21 = pcF (q 0) (iv (gvF (q 0) (iv p0))) (iv p0) ∧ r3 22 = lgF (q 0) (iv (gvF (q 0) (iv p0))) (iv p0) ∧ r3 23 = hdF (q 0) (iv (gvF (q 0) (iv p0))) (iv p0))) → ((v2 ≤ 0 → (∀ r7 : Nat → Int32, r7 = va_up r3 6 0 → (((r7 6) ≤ 0 → ((WF (q4 0) ∧ gix p0 ∧ vix (r7 18) ∧ zix (r7 19)) ∧ (∀ (v9 : Int32) (r10 : Nat → Int32) (q11 : Nat → Nat → Int32), (v9 = toF (q4 0) (iv (r7 18)) (iv (r7 19)) (iv p0) (r7 20) (r7 21) (r7 22) (r7 23) ∧ q11 = q4 ∧ kR r7 r10 [7, 24, 25, 26, 27, 28] ∧ r10 7 = nI (chpF (q4 0) (iv (r7 18)) (iv (r7 19)) (r7 20)) ∧ r10 24 = baseF (q4 0) (iv (r7 18)) (iv (r7 19)) (r7 20) ∧ r10 25 = (exAC (q4 0) (iv (r7 18)) (iv (r7 19)) (r7 20) (r7 21) (r7 22) (r7 23)).1 ∧ r10 26 = stF (q4 0) (iv (r7 18)) (iv p0) ∧ r10 27 = fuF (q4 0) (iv (r7 18)) (iv (r7 19)) (iv p0) (r7 20) (r7 21) (r7 22) (r7 23) ∧ r10 28 = (exAC (q4 0) (iv (r7 18)) (iv (r7 19)) (r7 20) (r7 21) (r7 22) (r7 23)).2) → (vf_n64 (FP.ddiv (FP.i2d v9) (FP.i2d (r10 20))) ∧ (P (FP.ddiv (FP.i2d v9) (FP.i2d (r10 20))) (r10, q11)))))) ∧ (¬ (r7 6) ≤ 0 → (P FP.dconst0 (r7, q4)))))) ∧ (¬ v2 ≤ 0 → (∀ r14 : Nat → Int32, r14 = va_up r3 6 2 → (((r14 6) ≤ 0 → ((WF (q4 0) ∧ gix p0 ∧ vix (r14 18) ∧ zix (r14 19)) ∧ (∀ (v16 : Int32) (r17 : Nat → Int32) (q18 : Nat → Nat → Int32), (v16 = toF (q4 0) (iv (r14 18)) (iv (r14 19)) (iv p0) (r14 20) (r14 21) (r14 22) (r14 23) ∧ q18 = q4 ∧ kR r14 r17 [7, 24, 25, 26, 27, 28] ∧ r17 7 = nI (chpF (q4 0) (iv (r14 18)) (iv (r14 19)) (r14 20)) ∧ r17 24 = baseF (q4 0) (iv (r14 18)) (iv (r14 19)) (r14 20) ∧ r17 25 = (exAC (q4 0) (iv (r14 18)) (iv (r14 19)) (r14 20) (r14 21) (r14 22) (r14 23)).1 ∧ r17 26 = stF (q4 0) (iv (r14 18)) (iv p0) ∧ r17 27 = fuF (q4 0) (iv (r14 18)) (iv (r14 19)) (iv p0) (r14 20) (r14 21) (r14 22) (r14 23) ∧ r17 28 = (exAC (q4 0) (iv (r14 18)) (iv (r14 19)) (r14 20) (r14 21) (r14 22) (r14 23)).2) → (vf_n64 (FP.ddiv (FP.i2d v16) (FP.i2d (r17 20))) ∧ (P (FP.ddiv (FP.i2d v16) (FP.i2d (r17 20))) (r17, q18)))))) ∧ (¬ (r14 6) ≤ 0 → (P FP.dconst0 (r14, q4)))))))))) ∧ ((grpF (q 0) p0) = 0 → (∀ r21 : Nat → Int32, r21 = va_up r 6 1 → (((r21 6) ≤ 0 → ((WF (q 0) ∧ gix p0 ∧ vix (r21 18) ∧ zix (r21 19)) ∧ (∀ (v23 : Int32) (r24 : Nat → Int32) (q25 : Nat → Nat → Int32), (v23 = toF (q 0) (iv (r21 18)) (iv (r21 19)) (iv p0) (r21 20) (r21 21) (r21 22) (r21 23) ∧ q25 = q ∧ kR r21 r24 [7, 24, 25, 26, 27, 28] ∧ r24 7 = nI (chpF (q 0) (iv (r21 18)) (iv (r21 19)) (r21 20)) ∧ r24 24 = baseF (q 0) (iv (r21 18)) (iv (r21 19)) (r21 20) ∧ r24 25 = (exAC (q 0) (iv (r21 18)) (iv (r21 19)) (r21 20) (r21 21) (r21 22) (r21 23)).1 ∧ r24 26 = stF (q 0) (iv (r21 18)) (iv p0) ∧ r24 27 = fuF (q 0) (iv (r21 18)) (iv (r21 19)) (iv p0) (r21 20) (r21 21) (r21 22) (r21 23) ∧ r24 28 = (exAC (q 0) (iv (r21 18)) (iv (r21 19)) (r21 20) (r21 21) (r21 22) (r21 23)).2) → (vf_n64 (FP.ddiv (FP.i2d v23) (FP.i2d (r24 20))) ∧ (P (FP.ddiv (FP.i2d v23) (FP.i2d (r24 20))) (r24, q25)))))) ∧ (¬ (r21 6) ≤ 0 → (P FP.dconst0 (r21, q))))))
set_option maxRecDepth 100000 in
set_option maxHeartbeats 4000000 in
theorem t_X11_meanPrice {p : Program} {l : Launch} {e : Env} {s : State} {m : MethodId} {args : Array Value} {below : List Frame} {meth : Method} {c : Code} {D : va_G} {A : Nat → Prop} {T : Nat → ClassId} {m0 : Nat} {a : Nat → Nat} (C : GC p s m args meth c cX11_meanPrice "FreightRaterModel" (ws_X11_meanPrice) 2 D A (zty T)) (hr : meth.sig.returnType = (some .double)) (P : UInt64 → RST → Prop) : ∀ (p0 : Int32) (r : Nat → Int32) (q : Nat → Nat → Int32), wp_X11_meanPrice P p0 r q → GW p l e rm_X11_meanPrice s m args below meth c D A 2 0 0 (MQ below (va_Qd P (RE D T m0 a A) A) args s 0 0 A) (RW m0 a T r q) 0 0 0 [(0, .ref m0), (1, .int p0)] [] := by
  have hw : ∀ {w : Cond}, w ∈ W0 → w.before args s = true := fun h => C.2.2.2.2.1 _ (List.mem_cons_of_mem _ h)
  intro p0 r q h
  unfold wp_X11_meanPrice at h
  refine g_aload_n C dX11_meanPrice_0 rfl 0 rfl ?_
  refine g_aload_n C dX11_meanPrice_1 rfl 0 rfl ?_
  refine g_iload_n C dX11_meanPrice_2 rfl 1 rfl ?_
  refine gr_callVf C [.int p0] rfl (k_X11_isGroup l D T m0 a p0 r q) (w0_V 1 C.2.2.2.2.1 kw_2167 kw_2169 ks_85 kw_9 kw_2170 rfl rfl (by decide +kernel) ⟨by decide, by decide⟩) rfl (Nat.le_of_ble_eq_true rfl) (Nat.zero_le _) (Nat.zero_le _) dX11_meanPrice_3 ?_
  refine g_if_ne (tgt := 13) C dX11_meanPrice_6 (by decide) (fun z1 => ?_) (fun z1 => ?_)
  · replace h := h.1 z1
    refine g_aload_n C dX11_meanPrice_13 rfl 0 rfl ?_
    refine g_iload_n C dX11_meanPrice_14 rfl 1 rfl ?_
    obtain ⟨g5, h⟩ := h
    refine gr_calliV C [.int p0] rfl (k_X11_reasonOf l D T m0 a p0 r q g5) (w0_V 1 C.2.2.2.2.1 kw_2171 kw_2173 ks_86 kw_9 kw_2174 rfl rfl (by decide +kernel) ⟨by decide, by decide⟩) rfl (Nat.le_of_ble_eq_true rfl) (Nat.zero_le _) (Nat.zero_le _) dX11_meanPrice_15 (fun v2 r3 q4 hp => ?_)
    replace h := h v2 r3 q4 hp
    refine g_if_le (tgt := 25) C dX11_meanPrice_18 (by decide) (fun z6 => ?_) (fun z6 => ?_)
    · replace h := h.1 z6
      refine g_iconst (v := 0) C dX11_meanPrice_25 (by decide) ?_
      refine gr_put_6 C iwx_X11 (hw kw_1815) dX11_meanPrice_26 ?_
      refine gr_nr (fun r7 er7 => ?_)
      replace h := h r7 er7
      refine g_aload_n C dX11_meanPrice_29 rfl 0 rfl ?_
      refine gr_get C iwx_X11 6 (hw kw_1815) (by decide) rfl rfl dX11_meanPrice_30 ?_
      refine g_if_le (tgt := 40) C dX11_meanPrice_33 (by decide) (fun z8 => ?_) (fun z8 => ?_)
      · replace h := h.1 z8
        refine g_aload_n C dX11_meanPrice_40 rfl 0 rfl ?_
        refine g_iload_n C dX11_meanPrice_41 rfl 1 rfl ?_
        obtain ⟨g12, h⟩ := h
        refine gr_calliV C [.int p0] rfl (k_X11_totalOf l D T m0 a p0 r7 q4 g12) (w0_V 1 C.2.2.2.2.1 kw_2208 kw_2210 ks_93 kw_9 kw_2211 rfl rfl (by decide +kernel) ⟨by decide, by decide⟩) rfl (Nat.le_of_ble_eq_true rfl) (Nat.zero_le _) (Nat.zero_le _) dX11_meanPrice_42 (fun v9 r10 q11 hp => ?_)
        replace h := h v9 r10 q11 hp
        refine g_i2d C dX11_meanPrice_45 ?_
        refine g_aload_n C dX11_meanPrice_46 rfl 0 rfl ?_
        refine gr_get C iwx_X11 20 (hw kw_1829) (by decide) rfl rfl dX11_meanPrice_47 ?_
        refine g_i2d C dX11_meanPrice_50 ?_
        obtain ⟨g13, h⟩ := h
        refine g_ddiv C dX11_meanPrice_51 g13 ?_
        exact gr_dret C hr dX11_meanPrice_52 h
      · replace h := h.2 z8
        refine g_dconst0 C dX11_meanPrice_36 ?_
        refine g_goto (tgt := 52) C dX11_meanPrice_37 (by decide) ?_
        exact gr_dret C hr dX11_meanPrice_52 h
    · replace h := h.2 z6
      refine g_iconst (v := 2) C dX11_meanPrice_21 (by decide) ?_
      refine g_goto (tgt := 26) C dX11_meanPrice_22 (by decide) ?_
      refine gr_put_6 C iwx_X11 (hw kw_1815) dX11_meanPrice_26 ?_
      refine gr_nr (fun r14 er14 => ?_)
      replace h := h r14 er14
      refine g_aload_n C dX11_meanPrice_29 rfl 0 rfl ?_
      refine gr_get C iwx_X11 6 (hw kw_1815) (by decide) rfl rfl dX11_meanPrice_30 ?_
      refine g_if_le (tgt := 40) C dX11_meanPrice_33 (by decide) (fun z15 => ?_) (fun z15 => ?_)
      · replace h := h.1 z15
        refine g_aload_n C dX11_meanPrice_40 rfl 0 rfl ?_
        refine g_iload_n C dX11_meanPrice_41 rfl 1 rfl ?_
        obtain ⟨g19, h⟩ := h
        refine gr_calliV C [.int p0] rfl (k_X11_totalOf l D T m0 a p0 r14 q4 g19) (w0_V 1 C.2.2.2.2.1 kw_2208 kw_2210 ks_93 kw_9 kw_2211 rfl rfl (by decide +kernel) ⟨by decide, by decide⟩) rfl (Nat.le_of_ble_eq_true rfl) (Nat.zero_le _) (Nat.zero_le _) dX11_meanPrice_42 (fun v16 r17 q18 hp => ?_)
        replace h := h v16 r17 q18 hp
        refine g_i2d C dX11_meanPrice_45 ?_
        refine g_aload_n C dX11_meanPrice_46 rfl 0 rfl ?_
        refine gr_get C iwx_X11 20 (hw kw_1829) (by decide) rfl rfl dX11_meanPrice_47 ?_
        refine g_i2d C dX11_meanPrice_50 ?_
        obtain ⟨g20, h⟩ := h
        refine g_ddiv C dX11_meanPrice_51 g20 ?_
        exact gr_dret C hr dX11_meanPrice_52 h
      · replace h := h.2 z15
        refine g_dconst0 C dX11_meanPrice_36 ?_
        refine g_goto (tgt := 52) C dX11_meanPrice_37 (by decide) ?_
        exact gr_dret C hr dX11_meanPrice_52 h
  · replace h := h.2 z1
    refine g_iconst (v := 1) C dX11_meanPrice_9 (by decide) ?_
    refine g_goto (tgt := 26) C dX11_meanPrice_10 (by decide) ?_
    refine gr_put_6 C iwx_X11 (hw kw_1815) dX11_meanPrice_26 ?_
    refine gr_nr (fun r21 er21 => ?_)
    replace h := h r21 er21
    refine g_aload_n C dX11_meanPrice_29 rfl 0 rfl ?_
    refine gr_get C iwx_X11 6 (hw kw_1815) (by decide) rfl rfl dX11_meanPrice_30 ?_
    refine g_if_le (tgt := 40) C dX11_meanPrice_33 (by decide) (fun z22 => ?_) (fun z22 => ?_)
    · replace h := h.1 z22
      refine g_aload_n C dX11_meanPrice_40 rfl 0 rfl ?_
      refine g_iload_n C dX11_meanPrice_41 rfl 1 rfl ?_
      obtain ⟨g26, h⟩ := h
      refine gr_calliV C [.int p0] rfl (k_X11_totalOf l D T m0 a p0 r21 q g26) (w0_V 1 C.2.2.2.2.1 kw_2208 kw_2210 ks_93 kw_9 kw_2211 rfl rfl (by decide +kernel) ⟨by decide, by decide⟩) rfl (Nat.le_of_ble_eq_true rfl) (Nat.zero_le _) (Nat.zero_le _) dX11_meanPrice_42 (fun v23 r24 q25 hp => ?_)
      replace h := h v23 r24 q25 hp
      refine g_i2d C dX11_meanPrice_45 ?_
      refine g_aload_n C dX11_meanPrice_46 rfl 0 rfl ?_
      refine gr_get C iwx_X11 20 (hw kw_1829) (by decide) rfl rfl dX11_meanPrice_47 ?_
      refine g_i2d C dX11_meanPrice_50 ?_
      obtain ⟨g27, h⟩ := h
      refine g_ddiv C dX11_meanPrice_51 g27 ?_
      exact gr_dret C hr dX11_meanPrice_52 h
    · replace h := h.2 z22
      refine g_dconst0 C dX11_meanPrice_36 ?_
      refine g_goto (tgt := 52) C dX11_meanPrice_37 (by decide) ?_
      exact gr_dret C hr dX11_meanPrice_52 h
theorem c_X11_meanPrice (l : Launch) (D : va_G) (T : Nat → ClassId) (m0 : Nat) (a : Nat → Nat) (p0 : Int32) (r : Nat → Int32) (q : Nat → Nat → Int32) (P : UInt64 → RST → Prop) (h : wp_X11_meanPrice P p0 r q) : RMd l yX11_meanPrice (ws_X11_meanPrice) rm_X11_meanPrice D T m0 a [.ref m0, .int p0] r q P := gr_metd (by decide) rfl rfl (Nat.le_of_ble_eq_true rfl) (fun p e s m args below meth c A C hr => t_X11_meanPrice C hr P p0 r q h)
theorem gw_pos {μ : Nat → Int32} (hw : WF μ) {g : Nat} {d : Int32} (hp : ∀ t, t < iv (μ 1) → g.testBit t = true → ¬ μ (14 + 26 * t + 4) = 0) : ∀ (k s A : Nat) (b c e h : Int32), s + k = iv (μ 1) → iv (μ 1) ≤ 10 → A ≤ 4995 * s → ∃ A', (gwF μ g d k s (nI A) b c e h).1 = nI A' ∧ A ≤ A' ∧ A' ≤ 49950 ∧ ((∃ t, s ≤ t ∧ t < s + k ∧ g.testBit t = true) → 1 ≤ A') := by
  intro k
  induction k with
  | zero => intro s A b c e h hs h10 hA; exact ⟨A, rfl, Nat.le_refl _, by omega, fun ⟨t, h1, h2, _⟩ => absurd h2 (by omega)⟩
  | succ k ih =>
    intro s A b c e h hs h10 hA
    rw [gwF]
    by_cases ht : g.testBit s = true
    · rw [if_pos ht]
      obtain ⟨m, m1, m2, em⟩ := real_pos hw (by omega) (hp s (by omega) ht)
      rw [em, nI_add]
      obtain ⟨A', h1, h2, h3, _⟩ := ih (s + 1) (A + m) (b + dimF μ s d) (c + μ (14 + 26 * s + 4)) (mxF e (longF μ s)) (h ||| μ (14 + 26 * s + 2)) (by omega) h10 (by omega)
      exact ⟨A', h1, by omega, h3, fun _ => by omega⟩
    · rw [if_neg ht]
      obtain ⟨A', h1, h2, h3, h4⟩ := ih (s + 1) A b c e h (by omega) h10 (by omega)
      refine ⟨A', h1, h2, h3, fun ⟨t, t1, t2, t3⟩ => h4 ⟨t, ?_, by omega, t3⟩⟩
      rcases Nat.lt_or_ge s t with q | q
      · exact q
      · have : t = s := by omega
        rw [this] at t3
        exact absurd t3 ht
/-- what is rated weighs something -/
theorem wt_pos {μ : Nat → Int32} (hw : WF μ) {g v : Nat} (hg : gok μ (nI g)) (hg2 : g < 1024) (h : (rsnD μ g).1 = 0) : ¬ wtF μ v g = 0 ∧ ¬ wtF μ v g < 1 := by
  obtain ⟨n, ns, e1, hns, n0, hn, en⟩ := hg
  have eg : g = n := (nI_eq (a := g) (b := n) (by omega) (by have := Nat.pow_le_pow_right (n := 2) (by decide) hns; omega)).mp en
  subst eg
  have i1 : iv (μ 1) = ns := by rw [e1]; exact nI_clamp (by omega)
  have f1 : firF μ 0 1 g = none := by
    cases z : firF μ 0 1 g with
    | none => rfl
    | some s => unfold rsnD at h; rw [z] at h; exact absurd (show (1 : Nat) = 0 from h) (by decide)
  have hp : ∀ t, t < iv (μ 1) → g.testBit t = true → ¬ μ (14 + 26 * t + 4) = 0 := fun t ht hb z => by
    have := fir_no (iv (μ 1)) 0 f1 t (Nat.zero_le _) (by omega) hb
    unfold rsF at this
    rw [if_pos rfl, if_pos z] at this
    exact absurd this (by decide)
  obtain ⟨t, ht⟩ := Nat.exists_testBit_of_ne_zero (show g ≠ 0 by omega)
  have htn : t < ns := by
    rcases Nat.lt_or_ge t ns with q | q
    · exact q
    · have := Nat.testBit_lt_two_pow (Nat.lt_of_lt_of_le hn (Nat.pow_le_pow_right (by decide) q))
      rw [this] at ht
      cases ht
  obtain ⟨A, h1, _, h3, h4⟩ := gw_pos (d := μ (274 + 510 * v + 146)) hw hp (iv (μ 1)) 0 0 0 0 0 0 (Nat.zero_add _) (by omega) (by omega)
  have a1 := h4 ⟨t, Nat.zero_le _, by omega, ht⟩
  have e : (gwt μ v g).1 = nI A := h1
  have tA : (nI A).toInt = (A : Int) := nI_toInt (by omega)
  have big : (1 : Int) ≤ (wtF μ v g).toInt := by
    unfold wtF mxF
    rw [e]
    split
    · rename_i q
      rw [Int32.lt_iff_toInt_lt, tA] at q
      omega
    · rw [tA]; omega
  refine ⟨fun z => ?_, fun z => ?_⟩
  · rw [z, Int32.toInt_zero] at big; omega
  · rw [Int32.lt_iff_toInt_lt] at z
    have : (1 : Int32).toInt = 1 := by decide
    omega
theorem k_X11_meanPrice (l : Launch) (D : va_G) (T : Nat → ClassId) (m0 : Nat) (a : Nat → Nat) (p0 : Int32) (r : Nat → Int32) (q : Nat → Nat → Int32) (h : WF (q 0)) : RMd l yX11_meanPrice (ws_X11_meanPrice) rm_X11_meanPrice D T m0 a [.ref m0, .int p0] r q (fun v u => (u.2 = q ∧ kR r u.1 SC ∧ u.1 6 = rateC (q 0) p0 ∧ (rateC (q 0) p0 = 0 → v = mpF (q 0) (iv p0)))) := c_X11_meanPrice l D T m0 a p0 r q _ <|
  (by
    have up1 : ∀ (r3 : Nat → Int32) (x : Int32), va_up r3 6 x 6 = x := fun r3 x => va_up_self _ _ _
    unfold wp_X11_meanPrice
    refine ⟨fun c => ?_, fun c r21 e21 => ?_⟩
    · have hg := grp_gok h c
      refine ⟨⟨h, hg⟩, fun v2 r3 q4 hh => ?_⟩
      obtain ⟨a1, a2, a3, a4, a5⟩ := hh
      have h8 := rsnD_8 (μ := q 0) (g := iv p0)
      obtain ⟨n, n10, n0, en, ein⟩ := hg.n
      have k3 : kR r r3 SC := (kR.rf : kR r r SC).tr a3 (fun _ h => h) (by decide)
      have rC : rateC (q 0) p0 = if (rsnD (q 0) (iv p0)).1 = 0 then 0 else 2 := by unfold rateC; rw [if_neg c]
      rw [a1, a2]
      refine ⟨fun z r7 e7 => ⟨fun _ => ?_, fun w => ?_⟩, fun z r14 e14 => ⟨fun w => ?_, fun _ => ?_⟩⟩
      · have z0 : (rsnD (q 0) (iv p0)).1 = 0 := by
          have := (nI_leI (b := 0) (by omega) (by decide)).mp z
          omega
        obtain ⟨b18, b19, b20, b21, b22, b23⟩ := a5 z0
        have k7 : ∀ j, j ≠ 6 → r7 j = r3 j := fun j hj => by rw [e7, va_up_ne _ _ hj]
        have gN : gok (q 0) (nI (iv p0)) := by rw [ein, ← en]; exact hg
        have hr0 := rsn0 (g := iv p0) h gN (by omega) z0
        have f18 : r7 18 = gvF (q 0) (iv p0) := (k7 18 (by decide)).trans b18
        have f19 : r7 19 = gzF (q 0) (iv p0) := (k7 19 (by decide)).trans b19
        have f20 : r7 20 = wtF (q 0) (iv (gvF (q 0) (iv p0))) (iv p0) := (k7 20 (by decide)).trans b20
        have f21 : r7 21 = pcF (q 0) (iv (gvF (q 0) (iv p0))) (iv p0) := (k7 21 (by decide)).trans b21
        have f22 : r7 22 = lgF (q 0) (iv (gvF (q 0) (iv p0))) (iv p0) := (k7 22 (by decide)).trans b22
        have f23 : r7 23 = hdF (q 0) (iv (gvF (q 0) (iv p0))) (iv p0) := (k7 23 (by decide)).trans b23
        refine ⟨⟨h, hg.gix.1, by rw [f18]; exact hr0.1.x, by rw [f19]; exact hr0.2.1⟩, fun v9 r10 q11 hh => ?_⟩
        obtain ⟨d1, d2, d3, _⟩ := hh
        have wp9 := wt_pos (v := iv (gvF (q 0) (iv p0))) h gN (by omega) z0
        have e20 : r10 20 = wtF (q 0) (iv (gvF (q 0) (iv p0))) (iv p0) := (d3 20 (by decide)).trans f20
        have k77 : kR r r7 SC := by rw [e7]; exact k3.up (by decide) _
        rw [e20, d2]
        refine ⟨div_n64 wp9.1, rfl, k77.tr d3 (fun _ h => h) (by decide), ?_, fun _ => ?_⟩
        · rw [rC, if_pos z0]
          show r10 6 = 0
          rw [d3 6 (by decide), e7, up1]
        · unfold mpF
          rw [if_neg wp9.2, d1, f18, f19, f20, f21, f22, f23]
          rfl
      · rw [e7, up1] at w
        exact absurd (by decide) w
      · rw [e14, up1] at w
        exact absurd w (by decide)
      · have z0 : ¬ (rsnD (q 0) (iv p0)).1 = 0 := fun g => by rw [g] at z; exact z (by decide)
        have k14 : kR r r14 SC := by rw [e14]; exact k3.up (by decide) _
        refine ⟨rfl, k14, ?_, fun g => ?_⟩
        · rw [rC, if_neg z0]
          show r14 6 = 2
          rw [e14, up1]
        · rw [rC, if_neg z0] at g
          exact absurd g (by decide)
    · have rC : rateC (q 0) p0 = 1 := by unfold rateC; rw [if_pos c]
      have k1 : kR r r21 SC := by rw [e21]; exact (kR.rf : kR r r SC).up (by decide) _
      refine ⟨fun w => ?_, fun _ => ⟨rfl, k1, ?_, fun g => ?_⟩⟩
      · rw [e21, up1] at w
        exact absurd w (by decide)
      · rw [rC]
        show r21 6 = 1
        rw [e21, up1]
      · rw [rC] at g
        exact absurd g (by decide))
end S_REFM
