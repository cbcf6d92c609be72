section S_ROS
abbrev ws_X11_putTest : List Cond := Cond.code yX11_putTest cX11_putTest 4 none :: W0
abbrev rm_X11_putTest : Room := ({ frames := 2, cells := 0, slots := 0, locals := 43 } : Room)
def wp_X11_putTest_33 (P : RST → Prop) (x1 : Int32) (x2 : Int32) (x3 : Int32) (r : Nat → Int32) (q : Nat → Nat → Int32) : Prop := (pa40 r 199 ∧ ∃ c : Nat, c < 128 ∧ (letF x2) = nI c) ∧ (∀ (r5 : Nat → Int32) (q6 : Nat → Nat → Int32), (apP r q [(letF x2)] r5 q6) → ((x2 ≤ 0 → ((pa40 r5 196 ∧ ∃ c : Nat, c ≤ 9999 ∧ (x1 - x1 / 10000 * 10000) = nI c) ∧ (∀ (r10 : Nat → Int32) (q11 : Nat → Nat → Int32), (apP r5 q6 (nuL (iv (x1 - x1 / 10000 * 10000))) r10 q11) → (P (r10, q11))))) ∧ (¬ x2 ≤ 0 → ((¬ x3 = 0 → ((¬ x3 = 1 → ((pa40 r5 199 ∧ ∃ c : Nat, c < 128 ∧ 61 = nI c) ∧ (∀ (r16 : Nat → Int32) (q17 : Nat → Nat → Int32), (apP r5 q6 [61] r16 q17) → ((pa40 r16 196 ∧ ∃ c : Nat, c ≤ 9999 ∧ (x1 - x1 / 10000 * 10000) = nI c) ∧ (∀ (r20 : Nat → Int32) (q21 : Nat → Nat → Int32), (apP r16 q17 (nuL (iv (x1 - x1 / 10000 * 10000))) r20 q21) → (P (r20, q21))))))) ∧ (x3 = 1 → ((pa40 r5 199 ∧ ∃ c : Nat, c < 128 ∧ 62 = nI c) ∧ (∀ (r24 : Nat → Int32) (q25 : Nat → Nat → Int32), (apP r5 q6 [62] r24 q25) → ((pa40 r24 196 ∧ ∃ c : Nat, c ≤ 9999 ∧ (x1 - x1 / 10000 * 10000) = nI c) ∧ (∀ (r28 : Nat → Int32) (q29 : Nat → Nat → Int32), (apP r24 q25 (nuL (iv (x1 - x1 / 10000 * 10000))) r28 q29) → (P (r28, q29))))))))) ∧ (x3 = 0 → ((pa40 r5 199 ∧ ∃ c : Nat, c < 128 ∧ 60 = nI c) ∧ (∀ (r32 : Nat → Int32) (q33 : Nat → Nat → Int32), (apP r5 q6 [60] r32 q33) → ((pa40 r32 196 ∧ ∃ c : Nat, c ≤ 9999 ∧ (x1 - x1 / 10000 * 10000) = nI c) ∧ (∀ (r36 : Nat → Int32) (q37 : Nat → Nat → Int32), (apP r32 q33 (nuL (iv (x1 - x1 / 10000 * 10000))) r36 q37) → (P (r36, q37)))))))))))
set_option maxRecDepth 100000 in
set_option maxHeartbeats 4000000 in
theorem t_X11_putTest_33 {p : Program} {l : Launch} {e : Env} {s : State} {m : MethodId} {args : Array Value} {below : List Frame} {meth : Method} {c : Code} {D : va_G} {A : Nat → Prop} {T : Nat → ClassId} {m0 : Nat} {a : Nat → Nat} (C : GC p s m args meth c cX11_putTest "FreightRaterModel" (ws_X11_putTest) 4 D A (zty T)) (hr : meth.sig.returnType = none) (P : RST → Prop) : ∀ (x1 : Int32) (x2 : Int32) (x3 : Int32) (r : Nat → Int32) (q : Nat → Nat → Int32), wp_X11_putTest_33  P x1 x2 x3 r q → GW p l e rm_X11_putTest s m args below meth c D A 4 0 0 (MQ below (va_Qv P (RE D T m0 a A) A) args s 0 0 A) (RW m0 a T r q) 0 0 33 [(0, .ref m0), (1, .int x1), (2, .int x2), (3, .int x3)] [] := by
  have hw : ∀ {w : Cond}, w ∈ W0 → w.before args s = true := fun h => C.2.2.2.2.1 _ (List.mem_cons_of_mem _ h)
  intro x1 x2 x3 r q h
  unfold wp_X11_putTest_33 at h
  refine g_aload_n C dX11_putTest_33 rfl 0 rfl ?_
  refine g_iload_n C dX11_putTest_34 rfl 2 rfl ?_
  refine gr_callSf C [.int x2] rfl (k_X11_letterOf l D T m0 a x2 r q) (w0_S 1 C.2.2.2.2.1 kw_2343 kw_2344 kw_9 kw_2345 rfl rfl (by decide +kernel) ⟨by decide, by decide⟩) rfl (Nat.le_of_ble_eq_true rfl) (Nat.zero_le _) (Nat.zero_le _) dX11_putTest_35 ?_
  obtain ⟨g7, h⟩ := h
  refine gr_callvV C [.int (letF x2)] rfl (k_X11_put l D T m0 a (letF x2) r q g7) (w0_V 1 C.2.2.2.2.1 kw_2331 kw_2333 ks_106 kw_9 kw_2334 rfl rfl (by decide +kernel) ⟨by decide, by decide⟩) rfl (Nat.le_of_ble_eq_true rfl) (Nat.zero_le _) (Nat.zero_le _) dX11_putTest_38 (fun r5 q6 hp => ?_)
  replace h := h r5 q6 hp
  refine g_iload_n C dX11_putTest_41 rfl 2 rfl ?_
  refine g_if_le (tgt := 70) C dX11_putTest_42 (by decide) (fun z8 => ?_) (fun z8 => ?_)
  · replace h := h.1 z8
    refine g_aload_n C dX11_putTest_70 rfl 0 rfl ?_
    refine g_iload_n C dX11_putTest_71 rfl 1 rfl ?_
    refine g_sipush (v := 10000) C dX11_putTest_72 (by decide) ?_
    refine g_irem C dX11_putTest_75 (by decide) ?_
    obtain ⟨g12, h⟩ := h
    refine gr_callvV C [.int (x1 - x1 / 10000 * 10000)] rfl (k_X11_putNumber l D T m0 a (x1 - x1 / 10000 * 10000) r5 q6 g12) (w0_V 1 C.2.2.2.2.1 kw_2335 kw_2337 ks_107 kw_9 kw_2338 rfl rfl (by decide +kernel) ⟨by decide, by decide⟩) rfl (Nat.le_of_ble_eq_true rfl) (Nat.zero_le _) (Nat.zero_le _) dX11_putTest_76 (fun r10 q11 hp => ?_)
    replace h := h r10 q11 hp
    exact gr_vret C hr dX11_putTest_79 h
  · replace h := h.2 z8
    refine g_aload_n C dX11_putTest_45 rfl 0 rfl ?_
    refine g_iload_n C dX11_putTest_46 rfl 3 rfl ?_
    refine g_if_ne (tgt := 55) C dX11_putTest_47 (by decide) (fun z13 => ?_) (fun z13 => ?_)
    · replace h := h.1 z13
      refine g_iload_n C dX11_putTest_55 rfl 3 rfl ?_
      refine g_iconst (v := 1) C dX11_putTest_56 (by decide) ?_
      refine g_icmp_ne (tgt := 65) C dX11_putTest_57 (by decide) (fun z14 => ?_) (fun z14 => ?_)
      · replace h := h.1 z14
        refine g_bipush (v := 61) C dX11_putTest_65 (by decide) ?_
        obtain ⟨g18, h⟩ := h
        refine gr_callvV C [.int 61] rfl (k_X11_put l D T m0 a 61 r5 q6 g18) (w0_V 1 C.2.2.2.2.1 kw_2331 kw_2333 ks_106 kw_9 kw_2334 rfl rfl (by decide +kernel) ⟨by decide, by decide⟩) rfl (Nat.le_of_ble_eq_true rfl) (Nat.zero_le _) (Nat.zero_le _) dX11_putTest_67 (fun r16 q17 hp => ?_)
        replace h := h r16 q17 hp
        refine g_aload_n C dX11_putTest_70 rfl 0 rfl ?_
        refine g_iload_n C dX11_putTest_71 rfl 1 rfl ?_
        refine g_sipush (v := 10000) C dX11_putTest_72 (by decide) ?_
        refine g_irem C dX11_putTest_75 (by decide) ?_
        obtain ⟨g22, h⟩ := h
        refine gr_callvV C [.int (x1 - x1 / 10000 * 10000)] rfl (k_X11_putNumber l D T m0 a (x1 - x1 / 10000 * 10000) r16 q17 g22) (w0_V 1 C.2.2.2.2.1 kw_2335 kw_2337 ks_107 kw_9 kw_2338 rfl rfl (by decide +kernel) ⟨by decide, by decide⟩) rfl (Nat.le_of_ble_eq_true rfl) (Nat.zero_le _) (Nat.zero_le _) dX11_putTest_76 (fun r20 q21 hp => ?_)
        replace h := h r20 q21 hp
        exact gr_vret C hr dX11_putTest_79 h
      · replace h := h.2 z14
        refine g_bipush (v := 62) C dX11_putTest_60 (by decide) ?_
        refine g_goto (tgt := 67) C dX11_putTest_62 (by decide) ?_
        obtain ⟨g26, h⟩ := h
        refine gr_callvV C [.int 62] rfl (k_X11_put l D T m0 a 62 r5 q6 g26) (w0_V 1 C.2.2.2.2.1 kw_2331 kw_2333 ks_106 kw_9 kw_2334 rfl rfl (by decide +kernel) ⟨by decide, by decide⟩) rfl (Nat.le_of_ble_eq_true rfl) (Nat.zero_le _) (Nat.zero_le _) dX11_putTest_67 (fun r24 q25 hp => ?_)
        replace h := h r24 q25 hp
        refine g_aload_n C dX11_putTest_70 rfl 0 rfl ?_
        refine g_iload_n C dX11_putTest_71 rfl 1 rfl ?_
        refine g_sipush (v := 10000) C dX11_putTest_72 (by decide) ?_
        refine g_irem C dX11_putTest_75 (by decide) ?_
        obtain ⟨g30, h⟩ := h
        refine gr_callvV C [.int (x1 - x1 / 10000 * 10000)] rfl (k_X11_putNumber l D T m0 a (x1 - x1 / 10000 * 10000) r24 q25 g30) (w0_V 1 C.2.2.2.2.1 kw_2335 kw_2337 ks_107 kw_9 kw_2338 rfl rfl (by decide +kernel) ⟨by decide, by decide⟩) rfl (Nat.le_of_ble_eq_true rfl) (Nat.zero_le _) (Nat.zero_le _) dX11_putTest_76 (fun r28 q29 hp => ?_)
        replace h := h r28 q29 hp
        exact gr_vret C hr dX11_putTest_79 h
    · replace h := h.2 z13
      refine g_bipush (v := 60) C dX11_putTest_50 (by decide) ?_
      refine g_goto (tgt := 67) C dX11_putTest_52 (by decide) ?_
      obtain ⟨g34, h⟩ := h
      refine gr_callvV C [.int 60] rfl (k_X11_put l D T m0 a 60 r5 q6 g34) (w0_V 1 C.2.2.2.2.1 kw_2331 kw_2333 ks_106 kw_9 kw_2334 rfl rfl (by decide +kernel) ⟨by decide, by decide⟩) rfl (Nat.le_of_ble_eq_true rfl) (Nat.zero_le _) (Nat.zero_le _) dX11_putTest_67 (fun r32 q33 hp => ?_)
      replace h := h r32 q33 hp
      refine g_aload_n C dX11_putTest_70 rfl 0 rfl ?_
      refine g_iload_n C dX11_putTest_71 rfl 1 rfl ?_
      refine g_sipush (v := 10000) C dX11_putTest_72 (by decide) ?_
      refine g_irem C dX11_putTest_75 (by decide) ?_
      obtain ⟨g38, h⟩ := h
      refine gr_callvV C [.int (x1 - x1 / 10000 * 10000)] rfl (k_X11_putNumber l D T m0 a (x1 - x1 / 10000 * 10000) r32 q33 g38) (w0_V 1 C.2.2.2.2.1 kw_2335 kw_2337 ks_107 kw_9 kw_2338 rfl rfl (by decide +kernel) ⟨by decide, by decide⟩) rfl (Nat.le_of_ble_eq_true rfl) (Nat.zero_le _) (Nat.zero_le _) dX11_putTest_76 (fun r36 q37 hp => ?_)
      replace h := h r36 q37 hp
      exact gr_vret C hr dX11_putTest_79 h
def wp_X11_putTest (P : RST → Prop) (p0 : Int32) (r : Nat → Int32) (q : Nat → Nat → Int32) : Prop := ∀ v1 : Int32, v1 = ((p0 / 30000) - (p0 / 30000) / 5 * 5) → (∀ v2 : Int32, v2 = ((p0 / 10000) - (p0 / 10000) / 3 * 3) → ((¬ ((p0 / 150000) - (p0 / 150000) / 2 * 2) = 1 → (wp_X11_putTest_33  P p0 v1 v2 r q)) ∧ (((p0 / 150000) - (p0 / 150000) / 2 * 2) = 1 → ((pa40 r 199 ∧ ∃ c : Nat, c < 128 ∧ 45 = nI c) ∧ (∀ (r40 : Nat → Int32) (q41 : Nat → Nat → Int32), (apP r q [45] r40 q41) → (wp_X11_putTest_33  P p0 v1 v2 r40 q41))))))
set_option maxRecDepth 100000 in
set_option maxHeartbeats 4000000 in
theorem t_X11_putTest {p : Program} {l : Launch} {e : Env} {s : State} {m : MethodId} {args : Array Value} {below : List Frame} {meth : Method} {c : Code} {D : va_G} {A : Nat → Prop} {T : Nat → ClassId} {m0 : Nat} {a : Nat → Nat} (C : GC p s m args meth c cX11_putTest "FreightRaterModel" (ws_X11_putTest) 4 D A (zty T)) (hr : meth.sig.returnType = none) (P : RST → Prop) : ∀ (p0 : Int32) (r : Nat → Int32) (q : Nat → Nat → Int32), wp_X11_putTest P p0 r q → GW p l e rm_X11_putTest s m args below meth c D A 4 0 0 (MQ below (va_Qv P (RE D T m0 a A) A) args s 0 0 A) (RW m0 a T r q) 0 0 0 [(0, .ref m0), (1, .int p0)] [] := by
  have hw : ∀ {w : Cond}, w ∈ W0 → w.before args s = true := fun h => C.2.2.2.2.1 _ (List.mem_cons_of_mem _ h)
  intro p0 r q h
  unfold wp_X11_putTest at h
  refine g_iload_n C dX11_putTest_0 rfl 1 rfl ?_
  refine g_sipush (v := 30000) C dX11_putTest_1 (by decide) ?_
  refine g_idiv C dX11_putTest_4 (by decide) ?_
  refine g_iconst (v := 5) C dX11_putTest_5 (by decide) ?_
  refine g_irem C dX11_putTest_6 (by decide) ?_
  refine g_topi (fun v1 ev1 => ?_)
  replace h := h v1 ev1
  refine g_istore_n (lv' := [(2, .int v1), (0, .ref m0), (1, .int p0)]) C dX11_putTest_7 rfl (by decide) rfl ?_
  refine g_iload_n C dX11_putTest_8 rfl 2 rfl ?_
  refine g_sipush (v := 10000) C dX11_putTest_9 (by decide) ?_
  refine g_idiv C dX11_putTest_12 (by decide) ?_
  refine g_iconst (v := 3) C dX11_putTest_13 (by decide) ?_
  refine g_irem C dX11_putTest_14 (by decide) ?_
  refine g_topi (fun v2 ev2 => ?_)
  replace h := h v2 ev2
  refine g_istore_n (lv' := [(3, .int v2), (2, .int v1), (0, .ref m0), (1, .int p0)]) C dX11_putTest_15 rfl (by decide) rfl ?_
  refine g_iload_n C dX11_putTest_16 rfl 3 rfl ?_
  refine g_ldcw (v := 150000) C dX11_putTest_17 (hw kw_2221) ?_
  refine g_idiv C dX11_putTest_20 (by decide) ?_
  refine g_iconst (v := 2) C dX11_putTest_21 (by decide) ?_
  refine g_irem C dX11_putTest_22 (by decide) ?_
  refine g_iconst (v := 1) C dX11_putTest_23 (by decide) ?_
  refine g_icmp_ne (tgt := 33) C dX11_putTest_24 (by decide) (fun z3 => ?_) (fun z3 => ?_)
  · replace h := h.1 z3
    refine g_locals [2, 3, 1, 0] rfl ?_
    refine t_X11_putTest_33 C hr  P  p0 v1 v2 r q h
  · replace h := h.2 z3
    refine g_aload_n C dX11_putTest_27 rfl 2 rfl ?_
    refine g_bipush (v := 45) C dX11_putTest_28 (by decide) ?_
    obtain ⟨g42, h⟩ := h
    refine gr_callvV C [.int 45] rfl (k_X11_put l D T m0 a 45 r q g42) (w0_V 1 C.2.2.2.2.1 kw_2331 kw_2333 ks_106 kw_9 kw_2334 rfl rfl (by decide +kernel) ⟨by decide, by decide⟩) rfl (Nat.le_of_ble_eq_true rfl) (Nat.zero_le _) (Nat.zero_le _) dX11_putTest_30 (fun r40 q41 hp => ?_)
    replace h := h r40 q41 hp
    refine g_locals [2, 3, 1, 0] rfl ?_
    refine t_X11_putTest_33 C hr  P  p0 v1 v2 r40 q41 h
theorem c_X11_putTest (l : Launch) (D : va_G) (T : Nat → ClassId) (m0 : Nat) (a : Nat → Nat) (p0 : Int32) (r : Nat → Int32) (q : Nat → Nat → Int32) (P : RST → Prop) (h : wp_X11_putTest P p0 r q) : RMv l yX11_putTest (ws_X11_putTest) rm_X11_putTest D T m0 a [.ref m0, .int p0] r q P := gr_metv (by decide) rfl rfl (Nat.le_of_ble_eq_true rfl) (fun p e s m args below meth c A C hr => t_X11_putTest C hr P p0 r q h)
theorem letF_c (k : Nat) : ∃ c : Nat, c < 128 ∧ letF (nI k) = nI c := by
  unfold letF
  split
  · exact ⟨104, by decide, rfl⟩
  split
  · exact ⟨119, by decide, rfl⟩
  split
  · exact ⟨110, by decide, rfl⟩
  split
  · exact ⟨108, by decide, rfl⟩
  · exact ⟨122, by decide, rfl⟩
theorem w_pt33 {P : RST → Prop} {r : Nat → Int32} {q : Nat → Nat → Int32} {n : Nat} (hn : n ≤ 9999999) (hp : pa40 r 191) (hP : ∀ r1 q1, apP r q (letF (nI (n / 30000 % 5)) :: ((if 0 < n / 30000 % 5 then [if n / 10000 % 3 = 0 then (60 : Int32) else if n / 10000 % 3 = 1 then 62 else 61] else []) ++ nuL (n % 10000))) r1 q1 → P (r1, q1)) : wp_X11_putTest_33 P (nI n) (nI (n / 30000 % 5)) (nI (n / 10000 % 3)) r q := by
  have e1 : nI n - nI n / 10000 * 10000 = nI (n % 10000) := pk_rem (d := 10000) (by omega) (by decide) (by decide)
  have b1 : n % 10000 < 10000 := Nat.mod_lt _ (by decide)
  have b2 : n / 10000 % 3 < 3 := Nat.mod_lt _ (by decide)
  have b3 : n / 30000 % 5 < 5 := Nat.mod_lt _ (by decide)
  generalize hk : n / 30000 % 5 = kd at *
  generalize hy : n / 10000 % 3 = by_ at *
  unfold wp_X11_putTest_33
  rw [e1, show iv (nI (n % 10000)) = n % 10000 from nI_clamp (by omega)]
  refine ⟨⟨hp.mn (by decide), letF_c kd⟩, fun r5 q6 h5 => ?_⟩
  have p5 : pa40 r5 192 := h5.p40 hp (by decide)
  -- the comparison and the number
  have two : ∀ ch : Int32, 0 < kd → ch = (if by_ = 0 then (60 : Int32) else if by_ = 1 then 62 else 61) → (∃ c : Nat, c < 128 ∧ ch = nI c) → ((pa40 r5 199 ∧ ∃ c : Nat, c < 128 ∧ ch = nI c) ∧ (∀ (r16 : Nat → Int32) (q17 : Nat → Nat → Int32), (apP r5 q6 [ch] r16 q17) → ((pa40 r16 196 ∧ ∃ c : Nat, c ≤ 9999 ∧ nI (n % 10000) = nI c) ∧ (∀ (r20 : Nat → Int32) (q21 : Nat → Nat → Int32), (apP r16 q17 (nuL (n % 10000)) r20 q21) → (P (r20, q21)))))) := by
    intro ch h0 hch hc
    refine ⟨⟨p5.mn (by decide), hc⟩, fun r16 q17 h16 => ⟨⟨(h16.p40 p5 (by decide)).mn (by show 192 + 1 ≤ 196; decide), ⟨n % 10000, by omega, rfl⟩⟩, fun r20 q21 h20 => hP _ _ ?_⟩⟩
    rw [if_pos h0, ← hch]
    have a1 := h16.tr h20 p5 (by show 192 + 1 < _; decide)
    have a2 := h5.tr a1 hp (by show 191 + 1 < _; decide)
    exact a2
  refine ⟨fun z9 => ?_, fun z9 => ⟨fun z8 => ⟨fun z7 => ?_, fun z7 => ?_⟩, fun z8 => ?_⟩⟩
  · rw [nz_le0 (by omega)] at z9
    refine ⟨⟨p5.mn (by decide), ⟨n % 10000, by omega, rfl⟩⟩, fun r20 q21 h20 => hP _ _ ?_⟩
    rw [if_neg (by omega)]
    exact h5.tr h20 hp (by show 191 + 1 < _; decide)
  · rw [nz_le0 (by omega)] at z9
    rw [nz_eq0 (by omega)] at z8
    rw [nz_eq1 (by omega)] at z7
    exact two 61 (by omega) (by rw [if_neg z8, if_neg z7]) ⟨61, by decide, rfl⟩
  · rw [nz_le0 (by omega)] at z9
    rw [nz_eq0 (by omega)] at z8
    rw [nz_eq1 (by omega)] at z7
    exact two 62 (by omega) (by rw [if_neg z8, if_pos z7]) ⟨62, by decide, rfl⟩
  · rw [nz_le0 (by omega)] at z9
    rw [nz_eq0 (by omega)] at z8
    exact two 60 (by omega) (by rw [if_pos z8]) ⟨60, by decide, rfl⟩
theorem k_X11_putTest (l : Launch) (D : va_G) (T : Nat → ClassId) (m0 : Nat) (a : Nat → Nat) (p0 : Int32) (r : Nat → Int32) (q : Nat → Nat → Int32) (h : pa40 r 190 ∧ tix p0) : RMv l yX11_putTest (ws_X11_putTest) rm_X11_putTest D T m0 a [.ref m0, .int p0] r q (fun u => (apP r q (teL (iv p0)) u.1 u.2)) := c_X11_putTest l D T m0 a p0 r q _ <|
  (by
    obtain ⟨hp, n, hn, rfl⟩ := h
    have e2 : nI n / 10000 - nI n / 10000 / 3 * 3 = nI (n / 10000 % 3) := by
      rw [show nI n / 10000 = nI (n / 10000) from pk_div (d := 10000) (by omega) (by decide) (by decide)]
      exact pk_rem (d := 3) (nI_tix (by omega) _) (by decide) (by decide)
    have e3 : nI n / 30000 - nI n / 30000 / 5 * 5 = nI (n / 30000 % 5) := by
      rw [show nI n / 30000 = nI (n / 30000) from pk_div (d := 30000) (by omega) (by decide) (by decide)]
      exact pk_rem (d := 5) (nI_tix (by omega) _) (by decide) (by decide)
    have e4 : nI n / 150000 - nI n / 150000 / 2 * 2 = nI (n / 150000 % 2) := by
      rw [show nI n / 150000 = nI (n / 150000) from pk_div (d := 150000) (by omega) (by decide) (by decide)]
      exact pk_rem (d := 2) (nI_tix (by omega) _) (by decide) (by decide)
    have b4 : n / 150000 % 2 < 2 := Nat.mod_lt _ (by decide)
    have ic : iv (nI n) = n := nI_clamp (by omega)
    rw [ic]
    unfold wp_X11_putTest
    rw [e2, e3, e4, nz_eq1 (by omega)]
    refine fun v1 h1 v2 h2 => ?_
    subst h1 h2
    refine ⟨fun z9 => ?_, fun z9 => ⟨⟨hp.mn (by decide), ⟨45, by decide, rfl⟩⟩, fun r40 q41 h40 => ?_⟩⟩
    · refine w_pt33 hn (hp.mn (by decide)) (fun r1 q1 h1 => ?_)
      unfold teL
      rw [if_neg z9]
      exact h1
    · have p40 : pa40 r40 191 := h40.p40 hp (by decide)
      refine w_pt33 hn p40 (fun r1 q1 h1 => ?_)
      unfold teL
      rw [if_pos z9]
      exact h40.tr h1 hp (by show 190 + 1 < _; decide))
abbrev ws_X11_write : List Cond := Cond.code yX11_write cX11_write 7 (some .int) :: W0
abbrev rm_X11_write : Room := ({ frames := 3, cells := 0, slots := 0, locals := 66 } : Room)
def wp_X11_write_194 (K130 : Int32 → Int32 → (Nat → Int32) → (Nat → Nat → Int32) → Prop) (P : Int32 → RST → Prop) (x3 : Int32) (x4 : Int32) (x5 : Int32) (s0 : Int32) (r : Nat → Int32) (q : Nat → Nat → Int32) : Prop := (¬ x4 = 0 → ((s0 = 0 → ((pa40 r 199 ∧ ∃ c : Nat, c < 128 ∧ 124 = nI c) ∧ (∀ (r45 : Nat → Int32) (q46 : Nat → Nat → Int32), (apP r q [124] r45 q46) → ((pa40 r45 190 ∧ tix x5) ∧ (∀ (r49 : Nat → Int32) (q50 : Nat → Nat → Int32), (apP r45 q46 (teL (iv x5)) r49 q50) → (∀ v52 : Int32, v52 = x4 + 1 → (K130 x3 v52 r49 q50))))))) ∧ (¬ s0 = 0 → ((pa40 r 199 ∧ ∃ c : Nat, c < 128 ∧ 38 = nI c) ∧ (∀ (r54 : Nat → Int32) (q55 : Nat → Nat → Int32), (apP r q [38] r54 q55) → ((pa40 r54 190 ∧ tix x5) ∧ (∀ (r58 : Nat → Int32) (q59 : Nat → Nat → Int32), (apP r54 q55 (teL (iv x5)) r58 q59) → (∀ v61 : Int32, v61 = x4 + 1 → (K130 x3 v61 r58 q59))))))))) ∧ (x4 = 0 → ((pa40 r 199 ∧ ∃ c : Nat, c < 128 ∧ 63 = nI c) ∧ (∀ (r63 : Nat → Int32) (q64 : Nat → Nat → Int32), (apP r q [63] r63 q64) → ((pa40 r63 190 ∧ tix x5) ∧ (∀ (r67 : Nat → Int32) (q68 : Nat → Nat → Int32), (apP r63 q64 (teL (iv x5)) r67 q68) → (∀ v70 : Int32, v70 = x4 + 1 → (K130 x3 v70 r67 q68)))))))
set_option maxRecDepth 100000 in
set_option maxHeartbeats 4000000 in
theorem t_X11_write_194 {p : Program} {l : Launch} {e : Env} {s : State} {m : MethodId} {args : Array Value} {below : List Frame} {meth : Method} {c : Code} {D : va_G} {A : Nat → Prop} {T : Nat → ClassId} {m0 : Nat} {a : Nat → Nat} (C : GC p s m args meth c cX11_write "FreightRaterModel" (ws_X11_write) 7 D A (zty T)) (hr : meth.sig.returnType = (some .int)) (K130 : Int32 → Int32 → (Nat → Int32) → (Nat → Nat → Int32) → Prop) (P : Int32 → RST → Prop) (hK130 : ∀ (x3 : Int32) (x4 : Int32) (r : Nat → Int32) (q : Nat → Nat → Int32), K130 x3 x4 r q → GW p l e rm_X11_write s m args below meth c D A 7 0 0 (MQ below (va_Qi P (RE D T m0 a A) A) args s 0 0 A) (RW m0 a T r q) 0 0 130 [(0, .ref m0), (3, .int x3), (4, .int x4)] []) : ∀ (x3 : Int32) (x4 : Int32) (x5 : Int32) (s0 : Int32) (r : Nat → Int32) (q : Nat → Nat → Int32), wp_X11_write_194 K130 P x3 x4 x5 s0 r q → GW p l e rm_X11_write s m args below meth c D A 7 0 0 (MQ below (va_Qi P (RE D T m0 a A) A) args s 0 0 A) (RW m0 a T r q) 0 0 194 [(0, .ref m0), (3, .int x3), (4, .int x4), (5, .int x5)] [.int s0] := by
  have hw : ∀ {w : Cond}, w ∈ W0 → w.before args s = true := fun h => C.2.2.2.2.1 _ (List.mem_cons_of_mem _ h)
  intro x3 x4 x5 s0 r q h
  unfold wp_X11_write_194 at h
  refine g_istore (lv' := [(6, .int s0), (0, .ref m0), (3, .int x3), (4, .int x4), (5, .int x5)]) C dX11_write_194 (by decide) rfl ?_
  refine g_aload_n C dX11_write_196 rfl 1 rfl ?_
  refine g_iload C dX11_write_197 3 rfl ?_
  refine g_if_ne (tgt := 207) C dX11_write_199 (by decide) (fun z42 => ?_) (fun z42 => ?_)
  · replace h := h.1 z42
    refine g_iload C dX11_write_207 0 rfl ?_
    refine g_if_eq (tgt := 217) C dX11_write_209 (by decide) (fun z43 => ?_) (fun z43 => ?_)
    · replace h := h.1 z43
      refine g_bipush (v := 124) C dX11_write_217 (by decide) ?_
      obtain ⟨g47, h⟩ := h
      refine gr_callvV C [.int 124] rfl (k_X11_put l D T m0 a 124 r q g47) (w0_V 1 C.2.2.2.2.1 kw_2331 kw_2333 ks_106 kw_9 kw_2334 rfl rfl (by decide +kernel) ⟨by decide, by decide⟩) rfl (Nat.le_of_ble_eq_true rfl) (Nat.zero_le _) (Nat.zero_le _) dX11_write_219 (fun r45 q46 hp => ?_)
      replace h := h r45 q46 hp
      refine g_aload_n C dX11_write_222 rfl 1 rfl ?_
      refine g_iload C dX11_write_223 4 rfl ?_
      obtain ⟨g51, h⟩ := h
      refine gr_callvV C [.int x5] rfl (k_X11_putTest l D T m0 a x5 r45 q46 g51) (w0_V 1 C.2.2.2.2.1 kw_2339 kw_2341 ks_108 kw_9 kw_2342 rfl rfl (by decide +kernel) ⟨by decide, by decide⟩) rfl (Nat.le_of_ble_eq_true rfl) (Nat.zero_le _) (Nat.zero_le _) dX11_write_225 (fun r49 q50 hp => ?_)
      replace h := h r49 q50 hp
      obtain ⟨v52, ev52⟩ : ∃ y : Int32, y = x4 + 1 := ⟨_, rfl⟩
      replace h := h v52 ev52
      refine g_iinc (v := v52) (lv' := [(4, .int v52), (6, .int s0), (0, .ref m0), (3, .int x3), (5, .int x5)]) C dX11_write_228 (j := 3) rfl (by rw [ev52]; rfl) (by decide) rfl ?_
      refine g_goto (tgt := 130) C dX11_write_231 (by decide) ?_
      refine g_locals [2, 3, 0] rfl ?_
      exact hK130 x3 v52 r49 q50 h
    · replace h := h.2 z43
      refine g_bipush (v := 38) C dX11_write_212 (by decide) ?_
      refine g_goto (tgt := 219) C dX11_write_214 (by decide) ?_
      obtain ⟨g56, h⟩ := h
      refine gr_callvV C [.int 38] rfl (k_X11_put l D T m0 a 38 r q g56) (w0_V 1 C.2.2.2.2.1 kw_2331 kw_2333 ks_106 kw_9 kw_2334 rfl rfl (by decide +kernel) ⟨by decide, by decide⟩) rfl (Nat.le_of_ble_eq_true rfl) (Nat.zero_le _) (Nat.zero_le _) dX11_write_219 (fun r54 q55 hp => ?_)
      replace h := h r54 q55 hp
      refine g_aload_n C dX11_write_222 rfl 1 rfl ?_
      refine g_iload C dX11_write_223 4 rfl ?_
      obtain ⟨g60, h⟩ := h
      refine gr_callvV C [.int x5] rfl (k_X11_putTest l D T m0 a x5 r54 q55 g60) (w0_V 1 C.2.2.2.2.1 kw_2339 kw_2341 ks_108 kw_9 kw_2342 rfl rfl (by decide +kernel) ⟨by decide, by decide⟩) rfl (Nat.le_of_ble_eq_true rfl) (Nat.zero_le _) (Nat.zero_le _) dX11_write_225 (fun r58 q59 hp => ?_)
      replace h := h r58 q59 hp
      obtain ⟨v61, ev61⟩ : ∃ y : Int32, y = x4 + 1 := ⟨_, rfl⟩
      replace h := h v61 ev61
      refine g_iinc (v := v61) (lv' := [(4, .int v61), (6, .int s0), (0, .ref m0), (3, .int x3), (5, .int x5)]) C dX11_write_228 (j := 3) rfl (by rw [ev61]; rfl) (by decide) rfl ?_
      refine g_goto (tgt := 130) C dX11_write_231 (by decide) ?_
      refine g_locals [2, 3, 0] rfl ?_
      exact hK130 x3 v61 r58 q59 h
  · replace h := h.2 z42
    refine g_bipush (v := 63) C dX11_write_202 (by decide) ?_
    refine g_goto (tgt := 219) C dX11_write_204 (by decide) ?_
    obtain ⟨g65, h⟩ := h
    refine gr_callvV C [.int 63] rfl (k_X11_put l D T m0 a 63 r q g65) (w0_V 1 C.2.2.2.2.1 kw_2331 kw_2333 ks_106 kw_9 kw_2334 rfl rfl (by decide +kernel) ⟨by decide, by decide⟩) rfl (Nat.le_of_ble_eq_true rfl) (Nat.zero_le _) (Nat.zero_le _) dX11_write_219 (fun r63 q64 hp => ?_)
    replace h := h r63 q64 hp
    refine g_aload_n C dX11_write_222 rfl 1 rfl ?_
    refine g_iload C dX11_write_223 4 rfl ?_
    obtain ⟨g69, h⟩ := h
    refine gr_callvV C [.int x5] rfl (k_X11_putTest l D T m0 a x5 r63 q64 g69) (w0_V 1 C.2.2.2.2.1 kw_2339 kw_2341 ks_108 kw_9 kw_2342 rfl rfl (by decide +kernel) ⟨by decide, by decide⟩) rfl (Nat.le_of_ble_eq_true rfl) (Nat.zero_le _) (Nat.zero_le _) dX11_write_225 (fun r67 q68 hp => ?_)
    replace h := h r67 q68 hp
    obtain ⟨v70, ev70⟩ : ∃ y : Int32, y = x4 + 1 := ⟨_, rfl⟩
    replace h := h v70 ev70
    refine g_iinc (v := v70) (lv' := [(4, .int v70), (6, .int s0), (0, .ref m0), (3, .int x3), (5, .int x5)]) C dX11_write_228 (j := 3) rfl (by rw [ev70]; rfl) (by decide) rfl ?_
    refine g_goto (tgt := 130) C dX11_write_231 (by decide) ?_
    refine g_locals [2, 3, 0] rfl ?_
    exact hK130 x3 v70 r67 q68 h
def wb_X11_write_130 (rec : Int32 → Int32 → (Nat → Int32) → (Nat → Nat → Int32) → Prop) (P : Int32 → RST → Prop) (x3 : Int32) (x4 : Int32) (r : Nat → Int32) (q : Nat → Nat → Int32) : Prop := vp_in (x3 + 4) 3334 ∧ (((q 0 (Int32.toNatClampNeg (x3 + 4))) ≤ x4 → (vp_in (x3 + 5) 3334 ∧ (((q 0 (Int32.toNatClampNeg (x3 + 5))) < 0 → (P (r 40) (r, q))) ∧ (¬ (q 0 (Int32.toNatClampNeg (x3 + 5))) < 0 → ((pa40 r 199 ∧ ∃ c : Nat, c < 128 ∧ 33 = nI c) ∧ (∀ (r31 : Nat → Int32) (q32 : Nat → Nat → Int32), (apP r q [33] r31 q32) → (vp_in (x3 + 5) 3334 ∧ ((pa40 r31 196 ∧ ∃ c : Nat, c ≤ 9999 ∧ (q32 0 (Int32.toNatClampNeg (x3 + 5))) = nI c) ∧ (∀ (r36 : Nat → Int32) (q37 : Nat → Nat → Int32), (apP r31 q32 (nuL (iv (q32 0 (Int32.toNatClampNeg (x3 + 5))))) r36 q37) → (P (r36 40) (r36, q37))))))))))) ∧ (¬ (q 0 (Int32.toNatClampNeg (x3 + 4))) ≤ x4 → (vp_in ((x3 + 6) + x4) 3334 ∧ (∀ v40 : Int32, v40 = (q 0 (Int32.toNatClampNeg ((x3 + 6) + x4))) → ((x4 ≤ 0 → (wp_X11_write_194 (fun (y71 : Int32) (y72 : Int32) (r73 : Nat → Int32) (q74 : Nat → Nat → Int32) => rec y71 y72 r73 q74) P x3 x4 v40 0 r q)) ∧ (¬ x4 ≤ 0 → (vp_in (((x3 + 6) + x4) - 1) 3334 ∧ ((¬ ((q 0 (Int32.toNatClampNeg (((x3 + 6) + x4) - 1))) / 300000) = (v40 / 300000) → (wp_X11_write_194 (fun (y77 : Int32) (y78 : Int32) (r79 : Nat → Int32) (q80 : Nat → Nat → Int32) => rec y77 y78 r79 q80) P x3 x4 v40 0 r q)) ∧ (((q 0 (Int32.toNatClampNeg (((x3 + 6) + x4) - 1))) / 300000) = (v40 / 300000) → (wp_X11_write_194 (fun (y81 : Int32) (y82 : Int32) (r83 : Nat → Int32) (q84 : Nat → Nat → Int32) => rec y81 y82 r83 q84) P x3 x4 v40 1 r q))))))))))
def wp_X11_write_130 (P : Int32 → RST → Prop) : Nat → Int32 → Int32 → (Nat → Int32) → (Nat → Nat → Int32) → Prop
  | 0 => fun _ _ _ _ => False
  | n + 1 => fun x3 x4 r q => wb_X11_write_130 (wp_X11_write_130  P n)  P x3 x4 r q
set_option maxRecDepth 100000 in
set_option maxHeartbeats 4000000 in
theorem t_X11_write_130 {p : Program} {l : Launch} {e : Env} {s : State} {m : MethodId} {args : Array Value} {below : List Frame} {meth : Method} {c : Code} {D : va_G} {A : Nat → Prop} {T : Nat → ClassId} {m0 : Nat} {a : Nat → Nat} (C : GC p s m args meth c cX11_write "FreightRaterModel" (ws_X11_write) 7 D A (zty T)) (hr : meth.sig.returnType = (some .int)) (P : Int32 → RST → Prop) : ∀ (n : Nat) (x3 : Int32) (x4 : Int32) (r : Nat → Int32) (q : Nat → Nat → Int32), wp_X11_write_130  P n x3 x4 r q → GW p l e rm_X11_write s m args below meth c D A 7 0 0 (MQ below (va_Qi P (RE D T m0 a A) A) args s 0 0 A) (RW m0 a T r q) 0 0 130 [(0, .ref m0), (3, .int x3), (4, .int x4)] [] := by
  have hw : ∀ {w : Cond}, w ∈ W0 → w.before args s = true := fun h => C.2.2.2.2.1 _ (List.mem_cons_of_mem _ h)
  intro n
  induction n with
  | zero => intro x3 x4 r q h; exact h.elim
  | succ n ih =>
    intro x3 x4 r q h
    replace h : wb_X11_write_130 (wp_X11_write_130  P n)  P x3 x4 r q := h
    unfold wb_X11_write_130 at h
    refine g_iload C dX11_write_130 2 rfl ?_
    refine g_aload_n C dX11_write_132 rfl 0 rfl ?_
    refine gr_get C iwx_X11 0 (hw kw_1809) (by decide) rfl rfl dX11_write_133 ?_
    refine g_iload_n C dX11_write_136 rfl 1 rfl ?_
    refine g_iconst (v := 4) C dX11_write_137 (by decide) ?_
    refine g_iadd C dX11_write_138 ?_
    obtain ⟨g26, h⟩ := h
    refine gr_ald_0 C g26 dX11_write_139 ?_
    refine g_icmp_ge (tgt := 234) C dX11_write_140 (by decide) (fun z27 => ?_) (fun z27 => ?_)
    · replace h := h.1 z27
      refine g_aload_n C dX11_write_234 rfl 0 rfl ?_
      refine gr_get C iwx_X11 0 (hw kw_1809) (by decide) rfl rfl dX11_write_235 ?_
      refine g_iload_n C dX11_write_238 rfl 1 rfl ?_
      refine g_iconst (v := 5) C dX11_write_239 (by decide) ?_
      refine g_iadd C dX11_write_240 ?_
      obtain ⟨g28, h⟩ := h
      refine gr_ald_0 C g28 dX11_write_241 ?_
      refine g_if_lt (tgt := 263) C dX11_write_242 (by decide) (fun z29 => ?_) (fun z29 => ?_)
      · replace h := h.1 z29
        refine g_aload_n C dX11_write_263 rfl 0 rfl ?_
        refine gr_get C iwx_X11 40 (hw kw_1849) (by decide) rfl rfl dX11_write_264 ?_
        exact gr_iret C hr dX11_write_267 h
      · replace h := h.2 z29
        refine g_aload_n C dX11_write_245 rfl 0 rfl ?_
        refine g_bipush (v := 33) C dX11_write_246 (by decide) ?_
        obtain ⟨g33, h⟩ := h
        refine gr_callvV C [.int 33] rfl (k_X11_put l D T m0 a 33 r q g33) (w0_V 1 C.2.2.2.2.1 kw_2331 kw_2333 ks_106 kw_9 kw_2334 rfl rfl (by decide +kernel) ⟨by decide, by decide⟩) rfl (Nat.le_of_ble_eq_true rfl) (Nat.zero_le _) (Nat.zero_le _) dX11_write_248 (fun r31 q32 hp => ?_)
        replace h := h r31 q32 hp
        refine g_aload_n C dX11_write_251 rfl 0 rfl ?_
        refine g_aload_n C dX11_write_252 rfl 0 rfl ?_
        refine gr_get C iwx_X11 0 (hw kw_1809) (by decide) rfl rfl dX11_write_253 ?_
        refine g_iload_n C dX11_write_256 rfl 1 rfl ?_
        refine g_iconst (v := 5) C dX11_write_257 (by decide) ?_
        refine g_iadd C dX11_write_258 ?_
        obtain ⟨g34, h⟩ := h
        refine gr_ald_0 C g34 dX11_write_259 ?_
        obtain ⟨g38, h⟩ := h
        refine gr_callvV C [.int (q32 0 (Int32.toNatClampNeg (x3 + 5)))] rfl (k_X11_putNumber l D T m0 a (q32 0 (Int32.toNatClampNeg (x3 + 5))) r31 q32 g38) (w0_V 1 C.2.2.2.2.1 kw_2335 kw_2337 ks_107 kw_9 kw_2338 rfl rfl (by decide +kernel) ⟨by decide, by decide⟩) rfl (Nat.le_of_ble_eq_true rfl) (Nat.zero_le _) (Nat.zero_le _) dX11_write_260 (fun r36 q37 hp => ?_)
        replace h := h r36 q37 hp
        refine g_aload_n C dX11_write_263 rfl 0 rfl ?_
        refine gr_get C iwx_X11 40 (hw kw_1849) (by decide) rfl rfl dX11_write_264 ?_
        exact gr_iret C hr dX11_write_267 h
    · replace h := h.2 z27
      refine g_aload_n C dX11_write_143 rfl 0 rfl ?_
      refine gr_get C iwx_X11 0 (hw kw_1809) (by decide) rfl rfl dX11_write_144 ?_
      refine g_iload_n C dX11_write_147 rfl 1 rfl ?_
      refine g_bipush (v := 6) C dX11_write_148 (by decide) ?_
      refine g_iadd C dX11_write_150 ?_
      refine g_iload C dX11_write_151 2 rfl ?_
      refine g_iadd C dX11_write_153 ?_
      obtain ⟨g39, h⟩ := h
      refine gr_ald_0 C g39 dX11_write_154 ?_
      refine g_topi (fun v40 ev40 => ?_)
      replace h := h v40 ev40
      refine g_istore (lv' := [(5, .int v40), (0, .ref m0), (3, .int x3), (4, .int x4)]) C dX11_write_155 (by decide) rfl ?_
      refine g_iload C dX11_write_157 3 rfl ?_
      refine g_if_le (tgt := 193) C dX11_write_159 (by decide) (fun z41 => ?_) (fun z41 => ?_)
      · replace h := h.1 z41
        refine g_iconst (v := 0) C dX11_write_193 (by decide) ?_
        refine g_locals [1, 2, 3, 0] rfl ?_
        refine t_X11_write_194 C hr _ P ?_ x3 x4 v40 0 r q h
        · intro y71 y72 r73 q74 h
          refine g_locals [0, 1, 2] rfl ?_
          exact ih y71 y72 r73 q74 h
      · replace h := h.2 z41
        refine g_aload_n C dX11_write_162 rfl 1 rfl ?_
        refine gr_get C iwx_X11 0 (hw kw_1809) (by decide) rfl rfl dX11_write_163 ?_
        refine g_iload_n C dX11_write_166 rfl 2 rfl ?_
        refine g_bipush (v := 6) C dX11_write_167 (by decide) ?_
        refine g_iadd C dX11_write_169 ?_
        refine g_iload C dX11_write_170 3 rfl ?_
        refine g_iadd C dX11_write_172 ?_
        refine g_iconst (v := 1) C dX11_write_173 (by decide) ?_
        refine g_isub C dX11_write_174 ?_
        obtain ⟨g75, h⟩ := h
        refine gr_ald_0 C g75 dX11_write_175 ?_
        refine g_ldcw (v := 300000) C dX11_write_176 (hw kw_2216) ?_
        refine g_idiv C dX11_write_179 (by decide) ?_
        refine g_iload C dX11_write_180 0 rfl ?_
        refine g_ldcw (v := 300000) C dX11_write_182 (hw kw_2216) ?_
        refine g_idiv C dX11_write_185 (by decide) ?_
        refine g_icmp_ne (tgt := 193) C dX11_write_186 (by decide) (fun z76 => ?_) (fun z76 => ?_)
        · replace h := h.1 z76
          refine g_iconst (v := 0) C dX11_write_193 (by decide) ?_
          refine g_locals [1, 2, 3, 0] rfl ?_
          refine t_X11_write_194 C hr _ P ?_ x3 x4 v40 0 r q h
          · intro y77 y78 r79 q80 h
            refine g_locals [0, 1, 2] rfl ?_
            exact ih y77 y78 r79 q80 h
        · replace h := h.2 z76
          refine g_iconst (v := 1) C dX11_write_189 (by decide) ?_
          refine g_goto (tgt := 194) C dX11_write_190 (by decide) ?_
          refine g_locals [1, 2, 3, 0] rfl ?_
          refine t_X11_write_194 C hr _ P ?_ x3 x4 v40 1 r q h
          · intro y81 y82 r83 q84 h
            refine g_locals [0, 1, 2] rfl ?_
            exact ih y81 y82 r83 q84 h
def wp_X11_write_41 (P : Int32 → RST → Prop) (x1 : Int32) (x2 : Int32) (s0 : Int32) (r : Nat → Int32) (q : Nat → Nat → Int32) : Prop := ∀ r3 : Nat → Int32, r3 = va_up r 6 s0 → (((r3 6) ≤ 0 → (∀ v5 : Int32, v5 = (274 + 510 * x1 + 150 + 36 * x2) → (∀ r6 : Nat → Int32, r6 = va_up r3 40 0 → ((pa40 r6 199 ∧ ∃ c : Nat, c < 128 ∧ 97 = nI c) ∧ (∀ (r8 : Nat → Int32) (q9 : Nat → Nat → Int32), (apP r6 q [97] r8 q9) → ((pa40 r8 196 ∧ ∃ c : Nat, c ≤ 9999 ∧ x2 = nI c) ∧ (∀ (r12 : Nat → Int32) (q13 : Nat → Nat → Int32), (apP r8 q9 (nuL (iv x2)) r12 q13) → ((pa40 r12 199 ∧ ∃ c : Nat, c < 128 ∧ 58 = nI c) ∧ (∀ (r16 : Nat → Int32) (q17 : Nat → Nat → Int32), (apP r12 q13 [58] r16 q17) → (vp_in (v5 + 1) 3334 ∧ ((pa40 r16 196 ∧ ∃ c : Nat, c ≤ 9999 ∧ (q17 0 (Int32.toNatClampNeg (v5 + 1))) = nI c) ∧ (∀ (r21 : Nat → Int32) (q22 : Nat → Nat → Int32), (apP r16 q17 (nuL (iv (q17 0 (Int32.toNatClampNeg (v5 + 1))))) r21 q22) → (vp_in (v5 + 2) 3334 ∧ (((q22 0 (Int32.toNatClampNeg (v5 + 2))) ≤ 0 → (∃ k85 : Nat, wp_X11_write_130  P k85 v5 0 r21 q22)) ∧ (¬ (q22 0 (Int32.toNatClampNeg (v5 + 2))) ≤ 0 → (vp_in (v5 + 2) 3334 ∧ ((¬ (q22 0 (Int32.toNatClampNeg (v5 + 2))) = 1 → ((pa40 r21 199 ∧ ∃ c : Nat, c < 128 ∧ 37 = nI c) ∧ (∀ (r89 : Nat → Int32) (q90 : Nat → Nat → Int32), (apP r21 q22 [37] r89 q90) → (∃ k92 : Nat, wp_X11_write_130  P k92 v5 0 r89 q90)))) ∧ ((q22 0 (Int32.toNatClampNeg (v5 + 2))) = 1 → ((pa40 r21 199 ∧ ∃ c : Nat, c < 128 ∧ 42 = nI c) ∧ (∀ (r94 : Nat → Int32) (q95 : Nat → Nat → Int32), (apP r21 q22 [42] r94 q95) → (∃ k97 : Nat, wp_X11_write_130  P k97 v5 0 r94 q95))))))))))))))))))))) ∧ (¬ (r3 6) ≤ 0 → (P 0 (r3, q))))
set_option maxRecDepth 100000 in
set_option maxHeartbeats 4000000 in
theorem t_X11_write_41 {p : Program} {l : Launch} {e : Env} {s : State} {m : MethodId} {args : Array Value} {below : List Frame} {meth : Method} {c : Code} {D : va_G} {A : Nat → Prop} {T : Nat → ClassId} {m0 : Nat} {a : Nat → Nat} (C : GC p s m args meth c cX11_write "FreightRaterModel" (ws_X11_write) 7 D A (zty T)) (hr : meth.sig.returnType = (some .int)) (P : Int32 → RST → Prop) : ∀ (x1 : Int32) (x2 : Int32) (s0 : Int32) (r : Nat → Int32) (q : Nat → Nat → Int32), wp_X11_write_41  P x1 x2 s0 r q → GW p l e rm_X11_write s m args below meth c D A 7 0 0 (MQ below (va_Qi P (RE D T m0 a A) A) args s 0 0 A) (RW m0 a T r q) 0 0 41 [(0, .ref m0), (1, .int x1), (2, .int x2)] [.int s0, .ref m0] := by
  have hw : ∀ {w : Cond}, w ∈ W0 → w.before args s = true := fun h => C.2.2.2.2.1 _ (List.mem_cons_of_mem _ h)
  intro x1 x2 s0 r q h
  unfold wp_X11_write_41 at h
  refine gr_put_6 C iwx_X11 (hw kw_1815) dX11_write_41 ?_
  refine gr_nr (fun r3 er3 => ?_)
  replace h := h r3 er3
  refine g_aload_n C dX11_write_44 rfl 0 rfl ?_
  refine gr_get C iwx_X11 6 (hw kw_1815) (by decide) rfl rfl dX11_write_45 ?_
  refine g_if_le (tgt := 53) C dX11_write_48 (by decide) (fun z4 => ?_) (fun z4 => ?_)
  · replace h := h.1 z4
    refine g_iload_n C dX11_write_53 rfl 1 rfl ?_
    refine g_iload_n C dX11_write_54 rfl 2 rfl ?_
    refine gr_callSf C [.int x1, .int x2] rfl (k_X11_extra l D T m0 a x1 x2 r3 q) (w0_S 2 C.2.2.2.2.1 kw_1978 kw_1979 kw_9 kw_1980 rfl rfl (by decide +kernel) ⟨by decide, by decide⟩) rfl (Nat.le_of_ble_eq_true rfl) (Nat.zero_le _) (Nat.zero_le _) dX11_write_55 ?_
    refine g_topi (fun v5 ev5 => ?_)
    replace h := h v5 ev5
    refine g_istore_n (lv' := [(3, .int v5), (0, .ref m0), (1, .int x1), (2, .int x2)]) C dX11_write_58 rfl (by decide) rfl ?_
    refine g_aload_n C dX11_write_59 rfl 1 rfl ?_
    refine g_iconst (v := 0) C dX11_write_60 (by decide) ?_
    refine gr_put_40 C iwx_X11 (hw kw_1849) dX11_write_61 ?_
    refine gr_nr (fun r6 er6 => ?_)
    replace h := h r6 er6
    refine g_aload_n C dX11_write_64 rfl 1 rfl ?_
    refine g_bipush (v := 97) C dX11_write_65 (by decide) ?_
    obtain ⟨g10, h⟩ := h
    refine gr_callvV C [.int 97] rfl (k_X11_put l D T m0 a 97 r6 q g10) (w0_V 1 C.2.2.2.2.1 kw_2331 kw_2333 ks_106 kw_9 kw_2334 rfl rfl (by decide +kernel) ⟨by decide, by decide⟩) rfl (Nat.le_of_ble_eq_true rfl) (Nat.zero_le _) (Nat.zero_le _) dX11_write_67 (fun r8 q9 hp => ?_)
    replace h := h r8 q9 hp
    refine g_aload_n C dX11_write_70 rfl 1 rfl ?_
    refine g_iload_n C dX11_write_71 rfl 3 rfl ?_
    obtain ⟨g14, h⟩ := h
    refine gr_callvV C [.int x2] rfl (k_X11_putNumber l D T m0 a x2 r8 q9 g14) (w0_V 1 C.2.2.2.2.1 kw_2335 kw_2337 ks_107 kw_9 kw_2338 rfl rfl (by decide +kernel) ⟨by decide, by decide⟩) rfl (Nat.le_of_ble_eq_true rfl) (Nat.zero_le _) (Nat.zero_le _) dX11_write_72 (fun r12 q13 hp => ?_)
    replace h := h r12 q13 hp
    refine g_aload_n C dX11_write_75 rfl 1 rfl ?_
    refine g_bipush (v := 58) C dX11_write_76 (by decide) ?_
    obtain ⟨g18, h⟩ := h
    refine gr_callvV C [.int 58] rfl (k_X11_put l D T m0 a 58 r12 q13 g18) (w0_V 1 C.2.2.2.2.1 kw_2331 kw_2333 ks_106 kw_9 kw_2334 rfl rfl (by decide +kernel) ⟨by decide, by decide⟩) rfl (Nat.le_of_ble_eq_true rfl) (Nat.zero_le _) (Nat.zero_le _) dX11_write_78 (fun r16 q17 hp => ?_)
    replace h := h r16 q17 hp
    refine g_aload_n C dX11_write_81 rfl 1 rfl ?_
    refine g_aload_n C dX11_write_82 rfl 1 rfl ?_
    refine gr_get C iwx_X11 0 (hw kw_1809) (by decide) rfl rfl dX11_write_83 ?_
    refine g_iload_n C dX11_write_86 rfl 0 rfl ?_
    refine g_iconst (v := 1) C dX11_write_87 (by decide) ?_
    refine g_iadd C dX11_write_88 ?_
    obtain ⟨g19, h⟩ := h
    refine gr_ald_0 C g19 dX11_write_89 ?_
    obtain ⟨g23, h⟩ := h
    refine gr_callvV C [.int (q17 0 (Int32.toNatClampNeg (v5 + 1)))] rfl (k_X11_putNumber l D T m0 a (q17 0 (Int32.toNatClampNeg (v5 + 1))) r16 q17 g23) (w0_V 1 C.2.2.2.2.1 kw_2335 kw_2337 ks_107 kw_9 kw_2338 rfl rfl (by decide +kernel) ⟨by decide, by decide⟩) rfl (Nat.le_of_ble_eq_true rfl) (Nat.zero_le _) (Nat.zero_le _) dX11_write_90 (fun r21 q22 hp => ?_)
    replace h := h r21 q22 hp
    refine g_aload_n C dX11_write_93 rfl 1 rfl ?_
    refine gr_get C iwx_X11 0 (hw kw_1809) (by decide) rfl rfl dX11_write_94 ?_
    refine g_iload_n C dX11_write_97 rfl 0 rfl ?_
    refine g_iconst (v := 2) C dX11_write_98 (by decide) ?_
    refine g_iadd C dX11_write_99 ?_
    obtain ⟨g24, h⟩ := h
    refine gr_ald_0 C g24 dX11_write_100 ?_
    refine g_if_le (tgt := 127) C dX11_write_101 (by decide) (fun z25 => ?_) (fun z25 => ?_)
    · replace h := h.1 z25
      refine g_iconst (v := 0) C dX11_write_127 (by decide) ?_
      refine g_istore (lv' := [(4, .int 0), (3, .int v5), (0, .ref m0), (1, .int x1), (2, .int x2)]) C dX11_write_128 (by decide) rfl ?_
      refine g_locals [2, 1, 0] rfl ?_
      obtain ⟨k85, h⟩ := h
      refine t_X11_write_130 C hr  P  k85 v5 0 r21 q22 h
    · replace h := h.2 z25
      refine g_aload_n C dX11_write_104 rfl 1 rfl ?_
      refine g_aload_n C dX11_write_105 rfl 1 rfl ?_
      refine gr_get C iwx_X11 0 (hw kw_1809) (by decide) rfl rfl dX11_write_106 ?_
      refine g_iload_n C dX11_write_109 rfl 0 rfl ?_
      refine g_iconst (v := 2) C dX11_write_110 (by decide) ?_
      refine g_iadd C dX11_write_111 ?_
      obtain ⟨g86, h⟩ := h
      refine gr_ald_0 C g86 dX11_write_112 ?_
      refine g_iconst (v := 1) C dX11_write_113 (by decide) ?_
      refine g_icmp_ne (tgt := 122) C dX11_write_114 (by decide) (fun z87 => ?_) (fun z87 => ?_)
      · replace h := h.1 z87
        refine g_bipush (v := 37) C dX11_write_122 (by decide) ?_
        obtain ⟨g91, h⟩ := h
        refine gr_callvV C [.int 37] rfl (k_X11_put l D T m0 a 37 r21 q22 g91) (w0_V 1 C.2.2.2.2.1 kw_2331 kw_2333 ks_106 kw_9 kw_2334 rfl rfl (by decide +kernel) ⟨by decide, by decide⟩) rfl (Nat.le_of_ble_eq_true rfl) (Nat.zero_le _) (Nat.zero_le _) dX11_write_124 (fun r89 q90 hp => ?_)
        replace h := h r89 q90 hp
        refine g_iconst (v := 0) C dX11_write_127 (by decide) ?_
        refine g_istore (lv' := [(4, .int 0), (3, .int v5), (0, .ref m0), (1, .int x1), (2, .int x2)]) C dX11_write_128 (by decide) rfl ?_
        refine g_locals [2, 1, 0] rfl ?_
        obtain ⟨k92, h⟩ := h
        refine t_X11_write_130 C hr  P  k92 v5 0 r89 q90 h
      · replace h := h.2 z87
        refine g_bipush (v := 42) C dX11_write_117 (by decide) ?_
        refine g_goto (tgt := 124) C dX11_write_119 (by decide) ?_
        obtain ⟨g96, h⟩ := h
        refine gr_callvV C [.int 42] rfl (k_X11_put l D T m0 a 42 r21 q22 g96) (w0_V 1 C.2.2.2.2.1 kw_2331 kw_2333 ks_106 kw_9 kw_2334 rfl rfl (by decide +kernel) ⟨by decide, by decide⟩) rfl (Nat.le_of_ble_eq_true rfl) (Nat.zero_le _) (Nat.zero_le _) dX11_write_124 (fun r94 q95 hp => ?_)
        replace h := h r94 q95 hp
        refine g_iconst (v := 0) C dX11_write_127 (by decide) ?_
        refine g_istore (lv' := [(4, .int 0), (3, .int v5), (0, .ref m0), (1, .int x1), (2, .int x2)]) C dX11_write_128 (by decide) rfl ?_
        refine g_locals [2, 1, 0] rfl ?_
        obtain ⟨k97, h⟩ := h
        refine t_X11_write_130 C hr  P  k97 v5 0 r94 q95 h
  · replace h := h.2 z4
    refine g_iconst (v := 0) C dX11_write_51 (by decide) ?_
    exact gr_iret C hr dX11_write_52 h
def wp_X11_write (P : Int32 → RST → Prop) (p0 : Int32) (p1 : Int32) (r : Nat → Int32) (q : Nat → Nat → Int32) : Prop := (¬ (zin p0 0 (q 0 0 - 1)) = 0 → (((zin p1 0 9) = 0 → (wp_X11_write_41  P p0 p1 2 r q)) ∧ (¬ (zin p1 0 9) = 0 → (vp_in (274 + 510 * p0 + 150 + 36 * p1) 3334 ∧ ((¬ (q 0 (Int32.toNatClampNeg (274 + 510 * p0 + 150 + 36 * p1))) = 0 → (wp_X11_write_41  P p0 p1 0 r q)) ∧ ((q 0 (Int32.toNatClampNeg (274 + 510 * p0 + 150 + 36 * p1))) = 0 → (wp_X11_write_41  P p0 p1 2 r q))))))) ∧ ((zin p0 0 (q 0 0 - 1)) = 0 → (wp_X11_write_41  P p0 p1 1 r q))
set_option maxRecDepth 100000 in
set_option maxHeartbeats 4000000 in
theorem t_X11_write {p : Program} {l : Launch} {e : Env} {s : State} {m : MethodId} {args : Array Value} {below : List Frame} {meth : Method} {c : Code} {D : va_G} {A : Nat → Prop} {T : Nat → ClassId} {m0 : Nat} {a : Nat → Nat} (C : GC p s m args meth c cX11_write "FreightRaterModel" (ws_X11_write) 7 D A (zty T)) (hr : meth.sig.returnType = (some .int)) (P : Int32 → RST → Prop) : ∀ (p0 : Int32) (p1 : Int32) (r : Nat → Int32) (q : Nat → Nat → Int32), wp_X11_write P p0 p1 r q → GW p l e rm_X11_write s m args below meth c D A 7 0 0 (MQ below (va_Qi P (RE D T m0 a A) A) args s 0 0 A) (RW m0 a T r q) 0 0 0 [(0, .ref m0), (1, .int p0), (2, .int p1)] [] := by
  have hw : ∀ {w : Cond}, w ∈ W0 → w.before args s = true := fun h => C.2.2.2.2.1 _ (List.mem_cons_of_mem _ h)
  intro p0 p1 r q h
  unfold wp_X11_write at h
  refine g_aload_n C dX11_write_0 rfl 0 rfl ?_
  refine g_aload_n C dX11_write_1 rfl 0 rfl ?_
  refine g_iload_n C dX11_write_2 rfl 1 rfl ?_
  refine gr_callVf C [.int p0] rfl (k_X11_isVersion l D T m0 a p0 r q) (w0_V 1 C.2.2.2.2.1 kw_1954 kw_1956 ks_51 kw_9 kw_1957 rfl rfl (by decide +kernel) ⟨by decide, by decide⟩) rfl (Nat.le_of_ble_eq_true rfl) (Nat.zero_le _) (Nat.zero_le _) dX11_write_3 ?_
  refine g_if_ne (tgt := 13) C dX11_write_6 (by decide) (fun z1 => ?_) (fun z1 => ?_)
  · replace h := h.1 z1
    refine g_iload_n C dX11_write_13 rfl 2 rfl ?_
    refine g_iconst (v := 0) C dX11_write_14 (by decide) ?_
    refine g_bipush (v := 9) C dX11_write_15 (by decide) ?_
    refine gr_callSf C [.int p1, .int 0, .int 9] rfl (k_X11_in l D T m0 a p1 0 9 r q) (w0_S 3 C.2.2.2.2.1 kw_1944 kw_1945 kw_9 kw_1946 rfl rfl (by decide +kernel) ⟨by decide, by decide⟩) rfl (Nat.le_of_ble_eq_true rfl) (Nat.zero_le _) (Nat.zero_le _) dX11_write_17 ?_
    refine g_if_eq (tgt := 36) C dX11_write_20 (by decide) (fun z2 => ?_) (fun z2 => ?_)
    · replace h := h.1 z2
      refine g_iconst (v := 2) C dX11_write_36 (by decide) ?_
      refine g_goto (tgt := 41) C dX11_write_37 (by decide) ?_
      refine g_locals [0, 1, 2] rfl ?_
      refine t_X11_write_41 C hr  P  p0 p1 2 r q h
    · replace h := h.2 z2
      refine g_aload_n C dX11_write_23 rfl 0 rfl ?_
      refine gr_get C iwx_X11 0 (hw kw_1809) (by decide) rfl rfl dX11_write_24 ?_
      refine g_iload_n C dX11_write_27 rfl 1 rfl ?_
      refine g_iload_n C dX11_write_28 rfl 2 rfl ?_
      refine gr_callSf C [.int p0, .int p1] rfl (k_X11_extra l D T m0 a p0 p1 r q) (w0_S 2 C.2.2.2.2.1 kw_1978 kw_1979 kw_9 kw_1980 rfl rfl (by decide +kernel) ⟨by decide, by decide⟩) rfl (Nat.le_of_ble_eq_true rfl) (Nat.zero_le _) (Nat.zero_le _) dX11_write_29 ?_
      obtain ⟨g98, h⟩ := h
      refine gr_ald_0 C g98 dX11_write_32 ?_
      refine g_if_ne (tgt := 40) C dX11_write_33 (by decide) (fun z99 => ?_) (fun z99 => ?_)
      · replace h := h.1 z99
        refine g_iconst (v := 0) C dX11_write_40 (by decide) ?_
        refine g_locals [0, 1, 2] rfl ?_
        refine t_X11_write_41 C hr  P  p0 p1 0 r q h
      · replace h := h.2 z99
        refine g_iconst (v := 2) C dX11_write_36 (by decide) ?_
        refine g_goto (tgt := 41) C dX11_write_37 (by decide) ?_
        refine g_locals [0, 1, 2] rfl ?_
        refine t_X11_write_41 C hr  P  p0 p1 2 r q h
  · replace h := h.2 z1
    refine g_iconst (v := 1) C dX11_write_9 (by decide) ?_
    refine g_goto (tgt := 41) C dX11_write_10 (by decide) ?_
    refine g_locals [0, 1, 2] rfl ?_
    refine t_X11_write_41 C hr  P  p0 p1 1 r q h
theorem c_X11_write (l : Launch) (D : va_G) (T : Nat → ClassId) (m0 : Nat) (a : Nat → Nat) (p0 : Int32) (p1 : Int32) (r : Nat → Int32) (q : Nat → Nat → Int32) (P : Int32 → RST → Prop) (h : wp_X11_write P p0 p1 r q) : RMi l yX11_write (ws_X11_write) rm_X11_write D T m0 a [.ref m0, .int p0, .int p1] r q P := gr_meti (by decide) rfl rfl (Nat.le_of_ble_eq_true rfl) (fun p e s m args below meth c A C hr => t_X11_write C hr P p0 p1 r q h)
theorem paT_len {μ : Nat → Int32} {e : Nat} : ∀ k j, (paT μ e k j).length ≤ 10 * k := by
  intro k
  induction k with
  | zero => intro j; exact Nat.le_refl _
  | succ k ih =>
    intro j
    rw [paT, List.length_cons, List.length_append]
    have := ih (j + 1)
    have h2 : (teL (iv (μ (e + 6 + j)))).length ≤ 9 := by
      unfold teL
      have := (nuL_len (iv (μ (e + 6 + j)) % 10000)).1
      rw [List.length_append, List.length_cons, List.length_append]
      have a1 : (if iv (μ (e + 6 + j)) / 150000 % 2 = 1 then ([45] : List Int32) else []).length ≤ 1 := by split <;> decide
      have a2 : ∀ x : Int32, (if 0 < iv (μ (e + 6 + j)) / 30000 % 5 then [x] else []).length ≤ 1 := fun x => by split; exact Nat.le_refl _; exact Nat.zero_le _
      have := a2 (if iv (μ (e + 6 + j)) / 10000 % 3 = 0 then (60 : Int32) else if iv (μ (e + 6 + j)) / 10000 % 3 = 1 then 62 else 61)
      omega
    omega
/-- the tests and what stands behind them -/
theorem rl_wr {P : Int32 → RST → Prop} {q0 : Nat → Nat → Int32} {v a c : Nat} (hw : WF (q0 0)) (hv : v < 6) (ha : a < 10) (ec : q0 0 (274 + 510 * v + 150 + 36 * a + 4) = nI c) (hc : c ≤ 30) : ∀ (k j fuel : Nat) (r : Nat → Int32) (q : Nat → Nat → Int32), j + k = c → k < fuel → q 0 = q0 0 → pa40 r (100 - (paT (q0 0) (274 + 510 * v + 150 + 36 * a) k j).length) → (paT (q0 0) (274 + 510 * v + 150 + 36 * a) k j).length ≤ 80 → (∀ r1 q1, apP r q (paT (q0 0) (274 + 510 * v + 150 + 36 * a) k j ++ (if q0 0 (274 + 510 * v + 150 + 36 * a + 5) < 0 then [] else 33 :: nuL (iv (q0 0 (274 + 510 * v + 150 + 36 * a + 5))))) r1 q1 → P (r1 40) (r1, q1)) → wp_X11_write_130 P fuel (nI (274 + 510 * v + 150 + 36 * a)) (nI j) r q := by
  obtain ⟨hA1, hA2, hA3, hA4, hA5, hA6, hA7, hA8, hA9⟩ := hw.acc hv ha
  intro k
  induction k with
  | zero =>
    intro j fuel r q hj hf hq hp hl hP
    obtain ⟨f, rfl⟩ : ∃ f, fuel = f + 1 := ⟨fuel - 1, by omega⟩; rw [wp_X11_write_130]; unfold wb_X11_write_130; dsimp only
    simp (disch := omega) only [li_2, li_3, li_4, li_5, li_6, li_7, li_8, li_9, li_10, li_12, li_14, li_20, li_26, li_30, li_31, li_36, li_38, li_47, li_48, li_50, li_57, li_58, li_80, li_98, li_99, li_100, li_102, li_104, li_105, li_108, li_109, li_110, li_114, li_115, li_119, li_122, li_137, li_146, li_147, li_148, li_149, li_150, li_200, li_255, li_256, li_274, li_510, li_512, li_640, li_999, li_1000, li_1024, li_3334, li_5000, li_9999, li_10000, li_23338, li_26672, li_30000, li_99999, li_150000, li_300000, pk_mul, nI_add, pk_sub, nI_clamp, nI_1, nI_p1, nI_a0, nI_0a, nI_m0, nI_m1, cl_0, cl_1, z01, z11, nI_leI, nI_ltI, nI_eq, nz_lt0, nz_le, nz_eq0, nz_pos, nz_le0, nz_eq1, nz_lt1, nz_ge1, nz_le1, nz_gt1, nz_vp, nz_vp0, nz_vp1, six_nI, vix_nI, bix_nI, pix_nI, fix_nI, gix_nI, rix_nI, zix_nI, pix_0, pix_1, bix_0, fix_0, fix_1, rix_1, true_and, and_true]
    rw [hq, ec]
    simp (disch := omega) only [li_2, li_3, li_4, li_5, li_6, li_7, li_8, li_9, li_10, li_12, li_14, li_20, li_26, li_30, li_31, li_36, li_38, li_47, li_48, li_50, li_57, li_58, li_80, li_98, li_99, li_100, li_102, li_104, li_105, li_108, li_109, li_110, li_114, li_115, li_119, li_122, li_137, li_146, li_147, li_148, li_149, li_150, li_200, li_255, li_256, li_274, li_510, li_512, li_640, li_999, li_1000, li_1024, li_3334, li_5000, li_9999, li_10000, li_23338, li_26672, li_30000, li_99999, li_150000, li_300000, pk_mul, nI_add, pk_sub, nI_clamp, nI_1, nI_p1, nI_a0, nI_0a, nI_m0, nI_m1, cl_0, cl_1, z01, z11, nI_leI, nI_ltI, nI_eq, nz_lt0, nz_le, nz_eq0, nz_pos, nz_le0, nz_eq1, nz_lt1, nz_ge1, nz_le1, nz_gt1, nz_vp, nz_vp0, nz_vp1, six_nI, vix_nI, bix_nI, pix_nI, fix_nI, gix_nI, rix_nI, zix_nI, pix_0, pix_1, bix_0, fix_0, fix_1, rix_1, true_and, and_true]
    refine ⟨by omega, fun _ => ⟨by omega, fun z9 => ?_, fun z9 => ⟨⟨hp.mn (by omega), ⟨33, by decide, rfl⟩⟩, fun r31 q32 h31 => ?_⟩⟩, fun z9 => absurd (by omega) z9⟩
    · refine hP r q ?_
      rw [if_pos z9]
      exact apP.nil hp (by omega)
    · have e32 : q32 0 = q0 0 := (h31.2.1 0 (by decide)).trans hq
      have p31 : pa40 r31 101 := (h31.p40 hp (by omega)).mn (by show 100 - 0 + 1 ≤ 101; omega)
      rw [e32]
      have hx : ∃ m : Nat, m ≤ 9 ∧ q0 0 (274 + 510 * v + 150 + 36 * a + 5) = nI m := by
        rcases hA6 with h | ⟨m, hm, e⟩
        · rw [h] at z9; exact absurd (by decide) z9
        · exact ⟨m, hm, e⟩
      obtain ⟨m, hm, em⟩ := hx
      refine ⟨by omega, ⟨p31.mn (by decide), ⟨m, by omega, em⟩⟩, fun r36 q37 h36 => hP _ _ ?_⟩
      rw [if_neg z9]
      exact h31.tr h36 hp (by show 100 - 0 + 1 < _; omega)
  | succ k ih =>
    intro j fuel r q hj hf hq hp hl hP
    obtain ⟨f, rfl⟩ : ∃ f, fuel = f + 1 := ⟨fuel - 1, by omega⟩; rw [wp_X11_write_130]; unfold wb_X11_write_130; dsimp only
    obtain ⟨t, ht, et⟩ := hA7 j (by omega)
    simp (disch := omega) only [li_2, li_3, li_4, li_5, li_6, li_7, li_8, li_9, li_10, li_12, li_14, li_20, li_26, li_30, li_31, li_36, li_38, li_47, li_48, li_50, li_57, li_58, li_80, li_98, li_99, li_100, li_102, li_104, li_105, li_108, li_109, li_110, li_114, li_115, li_119, li_122, li_137, li_146, li_147, li_148, li_149, li_150, li_200, li_255, li_256, li_274, li_510, li_512, li_640, li_999, li_1000, li_1024, li_3334, li_5000, li_9999, li_10000, li_23338, li_26672, li_30000, li_99999, li_150000, li_300000, pk_mul, nI_add, pk_sub, nI_clamp, nI_1, nI_p1, nI_a0, nI_0a, nI_m0, nI_m1, cl_0, cl_1, z01, z11, nI_leI, nI_ltI, nI_eq, nz_lt0, nz_le, nz_eq0, nz_pos, nz_le0, nz_eq1, nz_lt1, nz_ge1, nz_le1, nz_gt1, nz_vp, nz_vp0, nz_vp1, six_nI, vix_nI, bix_nI, pix_nI, fix_nI, gix_nI, rix_nI, zix_nI, pix_0, pix_1, bix_0, fix_0, fix_1, rix_1, true_and, and_true]
    rw [hq, ec, et]
    simp (disch := omega) only [li_2, li_3, li_4, li_5, li_6, li_7, li_8, li_9, li_10, li_12, li_14, li_20, li_26, li_30, li_31, li_36, li_38, li_47, li_48, li_50, li_57, li_58, li_80, li_98, li_99, li_100, li_102, li_104, li_105, li_108, li_109, li_110, li_114, li_115, li_119, li_122, li_137, li_146, li_147, li_148, li_149, li_150, li_200, li_255, li_256, li_274, li_510, li_512, li_640, li_999, li_1000, li_1024, li_3334, li_5000, li_9999, li_10000, li_23338, li_26672, li_30000, li_99999, li_150000, li_300000, pk_mul, nI_add, pk_sub, nI_clamp, nI_1, nI_p1, nI_a0, nI_0a, nI_m0, nI_m1, cl_0, cl_1, z01, z11, nI_leI, nI_ltI, nI_eq, nz_lt0, nz_le, nz_eq0, nz_pos, nz_le0, nz_eq1, nz_lt1, nz_ge1, nz_le1, nz_gt1, nz_vp, nz_vp0, nz_vp1, six_nI, vix_nI, bix_nI, pix_nI, fix_nI, gix_nI, rix_nI, zix_nI, pix_0, pix_1, bix_0, fix_0, fix_1, rix_1, true_and, and_true]
    rw [paT, List.length_cons, List.length_append] at hl
    have it : iv (q0 0 (274 + 510 * v + 150 + 36 * a + 6 + j)) = t := by rw [et]; exact nI_clamp (by omega)
    -- one test behind its sign
    have go : ∀ ch : Int32, (∃ c : Nat, c < 128 ∧ ch = nI c) → ch = (if j = 0 then (63 : Int32) else if iv (q0 0 (274 + 510 * v + 150 + 36 * a + 6 + j - 1)) / 300000 = iv (q0 0 (274 + 510 * v + 150 + 36 * a + 6 + j)) / 300000 then 38 else 124) → ((pa40 r 199 ∧ ∃ c : Nat, c < 128 ∧ ch = nI c) ∧ (∀ (r54 : Nat → Int32) (q55 : Nat → Nat → Int32), (apP r q [ch] r54 q55) → ((pa40 r54 190 ∧ tix (nI t)) ∧ (∀ (r58 : Nat → Int32) (q59 : Nat → Nat → Int32), (apP r54 q55 (teL (iv (nI t))) r58 q59) → (∀ v61 : Int32, v61 = nI j + 1 → (wp_X11_write_130 P f (nI (274 + 510 * v + 150 + 36 * a)) v61 r58 q59)))))) := by
      intro ch hcc hch
      refine ⟨⟨hp.mn (by omega), hcc⟩, fun r54 q55 h54 => ?_⟩
      have p54 := h54.p40 hp (by omega)
      refine ⟨⟨p54.mn (by show 100 - _ + 1 ≤ 190; omega), ⟨t, by omega, rfl⟩⟩, fun r58 q59 h58 v61 e61 => ?_⟩
      rw [nI_1] at e61
      subst e61
      rw [show iv (nI t) = t from nI_clamp (by omega)] at h58
      have hl2 : (paT (q0 0) (274 + 510 * v + 150 + 36 * a) (k + 1) j).length = 1 + ((teL t).length + (paT (q0 0) (274 + 510 * v + 150 + 36 * a) k (j + 1)).length) := by rw [paT, List.length_cons, List.length_append, it]; omega
      rw [it] at hl
      have h1 := h54.tr h58 hp (by show 100 - _ + 1 < _; omega)
      refine ih (j + 1) f r58 q59 (by omega) (by omega) ((h1.2.1 0 (by decide)).trans hq) ((h1.p40 hp (by omega)).mn ?_) (by omega) (fun r1 q1 h2 => hP r1 q1 ?_)
      · rw [hl2, List.length_append, show [ch].length = 1 from rfl]; omega
      · have h3 := h1.tr h2 hp (by rw [List.length_append, show [ch].length = 1 from rfl]; omega)
        rw [it] at hch
        rw [paT, it, ← hch]
        simpa only [List.append_assoc, List.cons_append, List.nil_append] using h3
    refine ⟨by omega, fun z9 => absurd z9 (by omega), fun _ => ⟨by omega, fun v40 e40 => ?_⟩⟩
    subst e40
    have w194 : ∀ s0 : Int32, (¬ j = 0 → (s0 = 0 → ¬ iv (q0 0 (274 + 510 * v + 150 + 36 * a + 6 + j - 1)) / 300000 = iv (q0 0 (274 + 510 * v + 150 + 36 * a + 6 + j)) / 300000) ∧ (¬ s0 = 0 → iv (q0 0 (274 + 510 * v + 150 + 36 * a + 6 + j - 1)) / 300000 = iv (q0 0 (274 + 510 * v + 150 + 36 * a + 6 + j)) / 300000)) → wp_X11_write_194 (fun (y71 : Int32) (y72 : Int32) (r73 : Nat → Int32) (q74 : Nat → Nat → Int32) => wp_X11_write_130 P f y71 y72 r73 q74) P (nI (274 + 510 * v + 150 + 36 * a)) (nI j) (nI t) s0 r q := by
      intro s0 hs
      unfold wp_X11_write_194
      rw [nz_eq0 (by omega)]
      refine ⟨fun z9 => ⟨fun z8 => ?_, fun z8 => ?_⟩, fun z9 => ?_⟩
      · exact go 124 ⟨124, by decide, rfl⟩ (by rw [if_neg z9, if_neg ((hs z9).1 z8)])
      · exact go 38 ⟨38, by decide, rfl⟩ (by rw [if_neg z9, if_pos ((hs z9).2 z8)])
      · exact go 63 ⟨63, by decide, rfl⟩ (by rw [if_pos z9])
    refine ⟨fun z9 => w194 0 (fun z8 => absurd (by omega) z8), fun z9 => ⟨by omega, ?_⟩⟩
    obtain ⟨t1, ht1, et1⟩ := hA7 (j - 1) (by omega)
    have ej : 274 + 510 * v + 150 + 36 * a + 6 + (j - 1) = 274 + 510 * v + 150 + 36 * a + 6 + j - 1 := by omega
    rw [ej] at et1
    have it1 : iv (q0 0 (274 + 510 * v + 150 + 36 * a + 6 + j - 1)) = t1 := by rw [et1]; exact nI_clamp (by omega)
    rw [et1]
    have hD : ∀ x : Nat, x ≤ 9999999 → nI x / nI 300000 = nI (x / 300000) := fun x hx => pk_div (by omega) (by decide) (by decide)
    have hb : ∀ x : Nat, x ≤ 9999999 → x / 300000 < 2 ^ 31 := fun x hx => Nat.lt_of_le_of_lt (Nat.div_le_self _ _) (by omega)
    rw [hD t1 ht1, hD t ht, nI_eq (hb t1 ht1) (hb t ht)]
    refine ⟨fun z8 => w194 0 (fun _ => ⟨fun _ => by rw [it1, it]; exact z8, fun z7 => absurd rfl z7⟩), fun z8 => w194 1 (fun _ => ⟨fun z7 => absurd z7 (by decide), fun _ => by rw [it1, it]; exact z8⟩)⟩
theorem k_X11_write (l : Launch) (D : va_G) (T : Nat → ClassId) (m0 : Nat) (a : Nat → Nat) (p0 : Int32) (p1 : Int32) (r : Nat → Int32) (q : Nat → Nat → Int32) (h : WF (q 0) ∧ WFP (q 0)) : RMi l yX11_write (ws_X11_write) rm_X11_write D T m0 a [.ref m0, .int p0, .int p1] r q (fun v u => (kR r u.1 (40 :: SC) ∧ kQ q u.2 [12] ∧ u.1 6 = wrC (q 0) p0 p1 ∧ (¬ wrC (q 0) p0 p1 = 0 → u.1 40 = r 40 ∧ u.2 = q) ∧ (wrC (q 0) p0 p1 = 0 → v = u.1 40 ∧ u.1 40 = nI (paF (q 0) (274 + 510 * iv p0 + 150 + 36 * iv p1) (iv p1)).length ∧ ∀ j x, (paF (q 0) (274 + 510 * iv p0 + 150 + 36 * iv p1) (iv p1))[j]? = some x → u.2 12 j = x))) := c_X11_write l D T m0 a p0 p1 r q _ <|
  (by
    obtain ⟨hw, hwp⟩ := h
    unfold wp_X11_write
    have bad : ∀ c : Int32, ¬ c ≤ 0 → wrC (q 0) p0 p1 = c → wp_X11_write_41 (fun v u => kR r u.1 (40 :: SC) ∧ kQ q u.2 [12] ∧ u.1 6 = wrC (q 0) p0 p1 ∧ (¬ wrC (q 0) p0 p1 = 0 → u.1 40 = r 40 ∧ u.2 = q) ∧ (wrC (q 0) p0 p1 = 0 → v = u.1 40 ∧ u.1 40 = nI (paF (q 0) (274 + 510 * iv p0 + 150 + 36 * iv p1) (iv p1)).length ∧ ∀ j x, (paF (q 0) (274 + 510 * iv p0 + 150 + 36 * iv p1) (iv p1))[j]? = some x → u.2 12 j = x)) p0 p1 c r q := by
      intro c hc he
      unfold wp_X11_write_41
      refine code_p hc ⟨kR.rf.up (by decide) _, kQ.rf, ?_, fun _ => ⟨by dsimp only; exact va_up_ne _ _ (by decide), rfl⟩, fun z9 => ?_⟩
      · dsimp only
        rw [va_up_self, he]
      · rw [he] at z9; rw [z9] at hc; exact absurd (by decide) hc
    refine ⟨fun z9 => ⟨fun z8 => bad 2 (by decide) (by unfold wrC; rw [if_neg z9, if_pos z8]), fun z8 => ?_⟩, fun z9 => bad 1 (by decide) (by unfold wrC; rw [if_pos z9])⟩
    obtain ⟨v, n, hv, hn6, e0, rfl⟩ := vers_ix hw z9
    obtain ⟨a, ha, rfl⟩ := zin_n (m := 9) (by decide) z8
    have ev : iv (nI v) = v := nI_clamp (by omega)
    have ea : iv (nI a) = a := nI_clamp (by omega)
    have hpa : vp_in (274 + 510 * nI v + 150 + 36 * nI a) 3334 = (274 + 510 * v + 150 + 36 * a < 3334) := by simp (disch := omega) only [li_2, li_3, li_4, li_5, li_6, li_7, li_8, li_9, li_10, li_12, li_14, li_20, li_26, li_30, li_31, li_36, li_38, li_47, li_48, li_50, li_57, li_58, li_80, li_98, li_99, li_100, li_102, li_104, li_105, li_108, li_109, li_110, li_114, li_115, li_119, li_122, li_137, li_146, li_147, li_148, li_149, li_150, li_200, li_255, li_256, li_274, li_510, li_512, li_640, li_999, li_1000, li_1024, li_3334, li_5000, li_9999, li_10000, li_23338, li_26672, li_30000, li_99999, li_150000, li_300000, pk_mul, nI_add, pk_sub, nI_clamp, nI_1, nI_p1, nI_a0, nI_0a, nI_m0, nI_m1, cl_0, cl_1, z01, z11, nI_leI, nI_ltI, nI_eq, nz_lt0, nz_le, nz_eq0, nz_pos, nz_le0, nz_eq1, nz_lt1, nz_ge1, nz_le1, nz_gt1, nz_vp, nz_vp0, nz_vp1, six_nI, vix_nI, bix_nI, pix_nI, fix_nI, gix_nI, rix_nI, zix_nI, pix_0, pix_1, bix_0, fix_0, fix_1, rix_1, true_and, and_true]
    have hia : Int32.toNatClampNeg (274 + 510 * nI v + 150 + 36 * nI a) = 274 + 510 * v + 150 + 36 * a := by simp (disch := omega) only [li_2, li_3, li_4, li_5, li_6, li_7, li_8, li_9, li_10, li_12, li_14, li_20, li_26, li_30, li_31, li_36, li_38, li_47, li_48, li_50, li_57, li_58, li_80, li_98, li_99, li_100, li_102, li_104, li_105, li_108, li_109, li_110, li_114, li_115, li_119, li_122, li_137, li_146, li_147, li_148, li_149, li_150, li_200, li_255, li_256, li_274, li_510, li_512, li_640, li_999, li_1000, li_1024, li_3334, li_5000, li_9999, li_10000, li_23338, li_26672, li_30000, li_99999, li_150000, li_300000, pk_mul, nI_add, pk_sub, nI_clamp, nI_1, nI_p1, nI_a0, nI_0a, nI_m0, nI_m1, cl_0, cl_1, z01, z11, nI_leI, nI_ltI, nI_eq, nz_lt0, nz_le, nz_eq0, nz_pos, nz_le0, nz_eq1, nz_lt1, nz_ge1, nz_le1, nz_gt1, nz_vp, nz_vp0, nz_vp1, six_nI, vix_nI, bix_nI, pix_nI, fix_nI, gix_nI, rix_nI, zix_nI, pix_0, pix_1, bix_0, fix_0, fix_1, rix_1, true_and, and_true]
    rw [hpa, hia]
    refine ⟨by omega, fun z7 => ?_, fun z7 => bad 2 (by decide) (by unfold wrC; rw [if_neg z9, if_neg z8, ev, ea, if_pos z7])⟩
    have hC : wrC (q 0) (nI v) (nI a) = 0 := by unfold wrC; rw [if_neg z9, if_neg z8, ev, ea, if_neg z7]
    rw [ev, ea]
    obtain ⟨hA1, ⟨num, hnum, enum⟩, ⟨kd, hkd, ekd⟩, hA4, ⟨c, hc, ec⟩, hA6, hA7, hA8, hA9⟩ := hw.acc (v := v) (a := a) (by omega) (by omega)
    have ic : iv (q 0 (274 + 510 * v + 150 + 36 * a + 4)) = c := by rw [ec]; exact nI_clamp (by omega)
    have inum : iv (q 0 (274 + 510 * v + 150 + 36 * a + 1)) = num := by rw [enum]; exact nI_clamp (by omega)
    have hlen := hwp v (by omega) a (by omega)
    rw [ic] at hlen
    unfold wp_X11_write_41
    refine code_0 ?_
    intro v5 e5
    have e5' : v5 = nI (274 + 510 * v + 150 + 36 * a) := by rw [e5]; simp (disch := omega) only [li_2, li_3, li_4, li_5, li_6, li_7, li_8, li_9, li_10, li_12, li_14, li_20, li_26, li_30, li_31, li_36, li_38, li_47, li_48, li_50, li_57, li_58, li_80, li_98, li_99, li_100, li_102, li_104, li_105, li_108, li_109, li_110, li_114, li_115, li_119, li_122, li_137, li_146, li_147, li_148, li_149, li_150, li_200, li_255, li_256, li_274, li_510, li_512, li_640, li_999, li_1000, li_1024, li_3334, li_5000, li_9999, li_10000, li_23338, li_26672, li_30000, li_99999, li_150000, li_300000, pk_mul, nI_add, pk_sub, nI_clamp, nI_1, nI_p1, nI_a0, nI_0a, nI_m0, nI_m1, cl_0, cl_1, z01, z11]
    clear e5
    subst e5'
    intro r6 e6
    have p6 : pa40 r6 0 := ⟨0, Nat.le_refl _, by rw [e6, va_up_self]; rfl⟩
    have i6 : iv (r6 40) = 0 := by rw [e6, va_up_self]; rfl
    have k6 : kR r r6 (40 :: SC) := by rw [e6]; exact (kR.rf.up (by decide) _).up (by decide) _
    refine ⟨⟨p6.mn (by decide), ⟨97, by decide, rfl⟩⟩, fun r8 q9 h8 => ?_⟩
    have p8 : pa40 r8 1 := h8.p40 p6 (by decide)
    refine ⟨⟨p8.mn (by decide), ⟨a, by omega, rfl⟩⟩, fun r12 q13 h12 => ?_⟩
    rw [show iv (nI a) = a from ea] at h12
    have la := nuL_len a
    have h12' := h8.tr h12 p6 (by show 0 + 1 < _; decide)
    have p12 : pa40 r12 5 := (h12'.p40 p6 (by decide)).mn (by rw [List.length_append, show ([97] : List Int32).length = 1 from rfl]; omega)
    refine ⟨⟨p12.mn (by decide), ⟨58, by decide, rfl⟩⟩, fun r16 q17 h16 => ?_⟩
    have p16 : pa40 r16 6 := h16.p40 p12 (by decide)
    have h16' := h12'.tr h16 p6 (by rw [List.length_append, show ([97] : List Int32).length = 1 from rfl]; omega)
    have q17e : q17 0 = q 0 := h16'.2.1 0 (by decide)
    simp (disch := omega) only [li_2, li_3, li_4, li_5, li_6, li_7, li_8, li_9, li_10, li_12, li_14, li_20, li_26, li_30, li_31, li_36, li_38, li_47, li_48, li_50, li_57, li_58, li_80, li_98, li_99, li_100, li_102, li_104, li_105, li_108, li_109, li_110, li_114, li_115, li_119, li_122, li_137, li_146, li_147, li_148, li_149, li_150, li_200, li_255, li_256, li_274, li_510, li_512, li_640, li_999, li_1000, li_1024, li_3334, li_5000, li_9999, li_10000, li_23338, li_26672, li_30000, li_99999, li_150000, li_300000, pk_mul, nI_add, pk_sub, nI_clamp, nI_1, nI_p1, nI_a0, nI_0a, nI_m0, nI_m1, cl_0, cl_1, z01, z11, nI_leI, nI_ltI, nI_eq, nz_lt0, nz_le, nz_eq0, nz_pos, nz_le0, nz_eq1, nz_lt1, nz_ge1, nz_le1, nz_gt1, nz_vp, nz_vp0, nz_vp1, six_nI, vix_nI, bix_nI, pix_nI, fix_nI, gix_nI, rix_nI, zix_nI, pix_0, pix_1, bix_0, fix_0, fix_1, rix_1, true_and, and_true]
    rw [q17e, enum, show iv (nI num) = num from nI_clamp (by omega)]
    refine ⟨by omega, ⟨p16.mn (by decide), ⟨num, by omega, rfl⟩⟩, fun r21 q22 h21 => ?_⟩
    have ln := nuL_len num
    have p21 : pa40 r21 10 := (h21.p40 p16 (by decide)).mn (by omega)
    have h21' := h16'.tr h21 p6 (by simp only [List.length_append, List.length_cons, List.length_nil]; omega)
    have q22e : q22 0 = q 0 := h21'.2.1 0 (by decide)
    -- what is left
    have rest : ∀ (KL : List Int32) (r1 : Nat → Int32) (q1 : Nat → Nat → Int32), KL = (if q 0 (274 + 510 * v + 150 + 36 * a + 2) = 0 then [] else [if q 0 (274 + 510 * v + 150 + 36 * a + 2) = 1 then (42 : Int32) else 37]) → KL.length ≤ 1 → apP r21 q22 KL r1 q1 → ∃ k85 : Nat, wp_X11_write_130 (fun vr u => kR r u.1 (40 :: SC) ∧ kQ q u.2 [12] ∧ u.1 6 = wrC (q 0) (nI v) (nI a) ∧ (¬ wrC (q 0) (nI v) (nI a) = 0 → u.1 40 = r 40 ∧ u.2 = q) ∧ (wrC (q 0) (nI v) (nI a) = 0 → vr = u.1 40 ∧ u.1 40 = nI (paF (q 0) (274 + 510 * v + 150 + 36 * a) a).length ∧ ∀ j x, (paF (q 0) (274 + 510 * v + 150 + 36 * a) a)[j]? = some x → u.2 12 j = x)) k85 (nI (274 + 510 * v + 150 + 36 * a)) 0 r1 q1 := by
      intro KL r1 q1 hKL hK1 h1
      refine ⟨100, rl_wr (q0 := q) hw (by omega) (by omega) ec hc c 0 100 r1 q1 (by omega) (by omega) ((h1.2.1 0 (by decide)).trans q22e) ?_ hlen (fun r2 q2 h2 => ?_)⟩
      · exact (h1.p40 p21 (by decide)).mn (by omega)
      · have h1' := h21'.tr h1 p6 (by simp only [List.length_append, List.length_cons, List.length_nil]; omega)
        have h2' := h1'.tr h2 p6 (by simp only [List.length_append, List.length_cons, List.length_nil]; omega)
        have e9 : ((((([97] ++ nuL a) ++ [58]) ++ nuL num) ++ KL) ++ (paT (q 0) (274 + 510 * v + 150 + 36 * a) c 0 ++ (if q 0 (274 + 510 * v + 150 + 36 * a + 5) < 0 then [] else 33 :: nuL (iv (q 0 (274 + 510 * v + 150 + 36 * a + 5)))))) = paF (q 0) (274 + 510 * v + 150 + 36 * a) a := by
          unfold paF
          rw [inum, ic, hKL]
          simp only [List.append_assoc, List.cons_append, List.nil_append]
        rw [e9] at h2'
        obtain ⟨a1, a2, a3, a4, a5⟩ := h2'
        rw [i6, Nat.zero_add] at a3
        refine ⟨k6.tr a1 (fun _ h => h) (by decide), a2, ?_, fun z6 => absurd hC z6, fun _ => ⟨rfl, a3, fun j x hx => ?_⟩⟩
        · dsimp only; rw [hC, a1 6 (by decide), e6, va_up_ne _ _ (by decide), va_up_self]
        · have := a5 j x hx
          rw [i6, Nat.zero_add] at this
          exact this
    rw [q22e, ekd]
    refine ⟨by omega, fun z6 => rest [] r21 q22 ?_ (by decide) (apP.nil p21 (by decide)), fun z6 => ⟨by omega, fun z5 => ⟨⟨p21.mn (by decide), ⟨37, by decide, rfl⟩⟩, fun r89 q90 h89 => rest [37] r89 q90 ?_ (by decide) h89⟩, fun z5 => ⟨⟨p21.mn (by decide), ⟨42, by decide, rfl⟩⟩, fun r94 q95 h94 => rest [42] r94 q95 ?_ (by decide) h94⟩⟩⟩
    · rw [nz_le0 (by omega)] at z6
      rw [ekd, if_pos (show nI kd = 0 by rw [show kd = 0 by omega]; rfl)]
    · rw [nz_le0 (by omega)] at z6
      rw [ekd, if_neg (fun z4 => z6 (by rw [nz_eq0 (by omega)] at z4; omega)), if_neg z5]
    · rw [ekd, z5]; rfl)

end S_ROS
