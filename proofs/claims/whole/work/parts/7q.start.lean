section STARTL
def R_law : String := "FreightRaterLaw"
def lw_P (b : Addr) (xs : List Int32) (args : Array Value) (s : State) : Prop := args = #[.ref b] ∧ s.IntsAt b xs ∧ xs.length ≤ 3072 ∧ (Jvm.Cond.and given_1 narrow_1).before args s = true
/-- what a walk over the start with the record d0 says of its end, said of the start itself -/
theorem lw_closed {s t : State} {o : Outcome} {d0 : Drawn} {L : List Loc} {k n : Nat} (hd0 : s.drawn.sameBut d0 lw_cs) (hv : ∃ v, o = .returned v) (hW : (s.setDrawn d0).WarmedH t.vm) (hs : (s.setDrawn d0).sameButNew ({ t with vm := s.vm } : State) L k n) : State.butDraws s t lw_cs (fun t1 => Framed s o t1 L k n) := by
  have h2 : t.drawn = d0 := congrArg State.drawn hs.1
  refine ⟨⟨hv, hW, State.sameButNew.setDrawn hs s.drawn⟩, ?_, by decide⟩
  rw [h2]
  exact hd0
def lw_Q (_ : Array Value) (s : State) (o : Outcome) (t : State) : Prop := o = .returned (some (.int 1)) ∧ State.butDraws s t lw_cs (fun t1 => Framed s o t1 [] 601024 7293034)
def lw_Z (below : List Frame) (a : Array Value) (s : State) : State → Prop := fun t => ∃ o, t.status = .running ∧ Ended t below o ∧ lw_Q a s o t
/-- the law's own end, with 1 on the stack, nothing written that was there before, its room as the claim has it; d0: the record of draws at this point (at the entry s.drawn: begin with 'refine W.base ?_' and 'have hd0 := Drawn.sameBut.refl s.drawn lw_cs') -/
theorem lw_ret {p : Program} {l : Launch} {e : Env} {s : State} {m : MethodId} {below : List Frame} {meth : Method} {c : Code} {b : Nat} {d0 : Drawn} (hd0 : s.drawn.sameBut d0 lw_cs) (hx : p.tables.exec = Jvm.exec) (hb : c.code = code) (hr : meth.sig.returnType = ret) (hlocks : meth.locks = false) {pc : Nat} {H : Heap} {ls : Array Slot} (hdg : decode code pc = .ok (.ireturn, 1)) : W p l e room_1 (s.setDrawn d0) m #[Value.ref b] below meth c H [] 601024 7293034 (lw_Z below #[Value.ref b] s) (F0 m pc ls [.int 1]) := by
  intro T hT X
  obtain ⟨fs, hret, hrun, hended, hW, hframe⟩ := X.leave (v := some (.int 1)) (hlocks := hlocks) (fun h => by rw [hr] at h; cases h)
  have hmeth' : T.vm.method? m = some meth := X.method'
  refine ⟨T.setFrames fs, ?_, .returned (some (.int 1)), hrun, hended, rfl, lw_closed hd0 ⟨_, rfl⟩ hW hframe⟩
  jvm_step X.here [X.here.top, hx, hb, hdg, hmeth', hr, ret, narrow_b1]
  (try refine ⟨rfl, ?_⟩); (try refine ⟨rfl, ?_⟩)
  first | (intro acts; rw [hret _ acts rfl rfl rfl]) | rw [hret _ _ rfl rfl rfl]
  exact Steps.refl _
/-- what holds at the law's entry: the machine, the code, the tables' words (any of lw_tbl by 'hts w (by decide +kernel)'), the script of L ints xs at the cell b, what the Statement gives of the start (any of its parts by flat_of_before) -/
def lw_At (p : Program) (s : State) (m : MethodId) (meth : Method) (c : Code) (b L : Nat) (xs : Nat → Int32) : Prop :=
  p.tables.exec = Jvm.exec ∧ c.code = code ∧ meth.sig.returnType = ret ∧ c.maxLocals = 9 ∧ s.vm.findClass R_law = some m.cls ∧ (∀ w ∈ lw_tbl, w.before #[Value.ref b] s = true) ∧ va_X b L xs s s.heap ∧ b < s.heap.size ∧ meth.locks = false ∧ (Jvm.Cond.and given_1 narrow_1).before #[Value.ref b] s = true
section SROWS
variable {p : Program} {l : Launch} {e : Env} {R : Room} {s : State} {m : MethodId} {args : Array Value} {below : List Frame} {meth : Method} {c : Code} {D : va_G} {A : Nat → Prop} {nL KC KS : Nat} {Q : State → Prop}
variable {kc ks pc : Nat} {lv : List (Nat × Value)} {st : List Value} {cc : ByteArray} {own : String} {Ts : List Cond} {T : Nat → ClassId} {ws w2 : va_W}
theorem gl_newR (C : GC p s m args meth c cc own Ts nL D A (zty T)) (hKC : KC ≤ R.cells) (hKS : KS ≤ R.slots) {idx : Nat} (hin : ∀ w ∈ wsX110, w ∈ Ts) (hlink : (Cond.classLink own idx RX11).before args s = true) (hinst : (Cond.instantiable RX11 42).before args s = true) (hini : (Cond.initialized RX11).before args s = true) (hkc : 1 ≤ kc) (hks : 42 ≤ ks) (hdg : decode cc pc = .ok (.new idx, 3)) (kk : ∀ q : Nat, GW p l e R s m args below meth c D A nL KC KS Q (ws ++ [(q, .inr (16, R0))]) (kc - 1) (ks - 42) (pc + 3) lv (.ref q :: st)) : GW p l e R s m args below meth c D A nL KC KS Q ws kc ks pc lv st := by
  intro H locs cells slots ls hP hD hS hl hc hs
  exact va_new (ci := 16) (fs := R0) (C := RX11) (T := TX11) (N := 42) C.1 C.2.1 C.2.2.2.2.1 hin tyX11 tyX11_ok C.2.2.2.1 hlink hinst hini C.2.2.2.2.2.1 hP hD hS C.2.2.2.2.2.2.1 rfl (fun j hj => by rcases (show j = 0 ∨ j = 1 ∨ j = 2 ∨ j = 3 ∨ j = 4 ∨ j = 5 ∨ j = 6 ∨ j = 7 ∨ j = 8 ∨ j = 9 ∨ j = 10 ∨ j = 11 ∨ j = 12 ∨ j = 13 ∨ j = 14 ∨ j = 15 ∨ j = 16 ∨ j = 17 ∨ j = 18 ∨ j = 19 ∨ j = 20 ∨ j = 21 ∨ j = 22 ∨ j = 23 ∨ j = 24 ∨ j = 25 ∨ j = 26 ∨ j = 27 ∨ j = 28 ∨ j = 29 ∨ j = 30 ∨ j = 31 ∨ j = 32 ∨ j = 33 ∨ j = 34 ∨ j = 35 ∨ j = 36 ∨ j = 37 ∨ j = 38 ∨ j = 39 ∨ j = 40 ∨ j = 41 by omega) with rfl | rfl | rfl | rfl | rfl | rfl | rfl | rfl | rfl | rfl | rfl | rfl | rfl | rfl | rfl | rfl | rfl | rfl | rfl | rfl | rfl | rfl | rfl | rfl | rfl | rfl | rfl | rfl | rfl | rfl | rfl | rfl | rfl | rfl | rfl | rfl | rfl | rfl | rfl | rfl | rfl | rfl <;> rfl) (by omega) (by omega) hdg (fun q H1 hP1 hD1 hS1 => kk q H1 locs (cells + 1) (slots + 42) ls hP1 hD1 hS1 hl (by omega) (by omega))
theorem gl_newJ (C : GC p s m args meth c cc own Ts nL D A (zty T)) (hKC : KC ≤ R.cells) (hKS : KS ≤ R.slots) (harr : (Cond.arrayClass .long).before args s = true) (hkc : 1 ≤ kc) (hks : 1 ≤ ks) (hdg : decode cc pc = .ok (.newarray .long, 2)) (kk : ∀ q : Nat, GW p l e R s m args below meth c D A nL KC KS Q (ws ++ [(q, oJ T (fun _ => 0))]) (kc - 1) (ks - 1) (pc + 2) lv (.ref q :: st)) : GW p l e R s m args below meth c D A nL KC KS Q ws kc ks pc lv (.int 1 :: st) := by
  intro H locs cells slots ls hP hD hS hl hc hs
  refine va_newa (atype := .long) (ty := .long) (N' := 1) (a0 := (1, .inr (.inl (fun _ => 0)))) C.1 C.2.1 harr rfl C.2.2.2.2.2.1 hP hD hS C.2.2.2.2.2.2.1 (fun cA => rfl) (by decide) (by decide) (by decide) (by omega) (by omega) hdg (fun q cA H1 hK1 hP1 hD1 hS1 => ?_)
  have hcA : cA = T 3 := by
    have h1 := (hK1.2 (zty T).length (cA, .long) (by simp)).2
    have h2 := (C.2.2.2.2.2.1.2 3 (T 3, .long) rfl).2
    exact Option.some.inj (h1.symm.trans h2)
  subst hcA
  exact kk q H1 locs (cells + 1) (slots + 1) ls hP1 hD1 hS1 hl (by omega) (by omega)
theorem gl_newD (C : GC p s m args meth c cc own Ts nL D A (zty T)) (hKC : KC ≤ R.cells) (hKS : KS ≤ R.slots) (harr : (Cond.arrayClass .double).before args s = true) (hkc : 1 ≤ kc) (hks : 1 ≤ ks) (hdg : decode cc pc = .ok (.newarray .double, 2)) (kk : ∀ q : Nat, GW p l e R s m args below meth c D A nL KC KS Q (ws ++ [(q, oD T (fun _ => 0))]) (kc - 1) (ks - 1) (pc + 2) lv (.ref q :: st)) : GW p l e R s m args below meth c D A nL KC KS Q ws kc ks pc lv (.int 1 :: st) := by
  intro H locs cells slots ls hP hD hS hl hc hs
  refine va_newa (atype := .double) (ty := .double) (N' := 1) (a0 := (1, .inr (.inr (.inr (.inl (fun _ => 0)))))) C.1 C.2.1 harr rfl C.2.2.2.2.2.1 hP hD hS C.2.2.2.2.2.2.1 (fun cA => rfl) (by decide) (by decide) (by decide) (by omega) (by omega) hdg (fun q cA H1 hK1 hP1 hD1 hS1 => ?_)
  have hcA : cA = T 4 := by
    have h1 := (hK1.2 (zty T).length (cA, .double) (by simp)).2
    have h2 := (C.2.2.2.2.2.1.2 4 (T 4, .double) rfl).2
    exact Option.some.inj (h1.symm.trans h2)
  subst hcA
  exact kk q H1 locs (cells + 1) (slots + 1) ls hP1 hD1 hS1 hl (by omega) (by omega)
theorem gl_refn {m0 : Nat} (C : GC p s m args meth c cc own Ts nL D A (zty T)) {y : MethodName} {bytes : ByteArray} {maxL n idx mc ms : Nat} {wsY : List Cond} {rmY : Room} (hM : RNi l y wsY rmY D T m0 mc ms) (cw : CallB R s args own idx y bytes maxL none wsY { rmY with cells := mc, slots := ms } mc ms n ∧ y.name = "<init>" ∧ (Cond.instanceMethod y).before args s = true) (hn : 0 = n) (hroom : (st.map fun v => v.category).sum ≤ 8) (hKC : KC ≤ R.cells) (hKS : KS ≤ R.slots) (hkc : mc ≤ kc) (hks : ms ≤ ks) (hdg : decode cc pc = .ok (.invokespecial idx, 3)) (kk : ∀ (ar : Nat → Nat) (r : Nat → Int32) (q : Nat → Nat → Int32), niP (ar, (r, q)) → GW p l e R s m args below meth c D A nL KC KS Q (w2 ++ RW m0 ar T r q) (kc - mc) (ks - ms) (pc + 3) lv st) : GW p l e R s m args below meth c D A nL KC KS Q (w2 ++ [(m0, .inr (16, R0))]) kc ks pc lv (.ref m0 :: st) := by
  intro H locs cells slots ls hP hD hS hl hc hs
  have hPc := pw_right hP
  have hDc := dw_right hD
  have hFc := gl_free C hDc hS
  refine va_callv (va_runI (As := []) (rest := st) ⟨C.1, C.2.1, C.2.2.1, C.2.2.2.1, C.2.2.2.2.1⟩ (hM H.size) cw ⟨fun av U g mk h => by
    obtain ⟨q0, q1, qP, qK, qD⟩ := h
    exact ⟨q0, q1, qP, va_K.moved (u := U) (U := U.calling g mk av) (Vm.Alike.refl U.vm) qK, qD⟩, fun U hU hW => ⟨rfl, by rw [hU], by rw [hU]; exact hPc, va_K.moved hW.alike C.2.2.2.2.2.1, hDc.weaken (fun _ _ _ _ => trivial)⟩⟩ rfl hn hl.1 rfl (lv_room hroom) hdg ⟨by omega, by omega⟩) hS (fun z _ h => hFc z h) hFc (fun u t H1 locs1 ht hvm hw9 hB hz1 hk1 hS1 => ?_)
  obtain ⟨ar, r, q⟩ := u
  obtain ⟨hP1, hK1, hD1⟩ := hB
  rw [ht] at hP1
  obtain ⟨hP2, hD2⟩ := fj hP hD hk1 hFc hP1 hD1
  exact kk ar r q hw9 H1 locs1 (cells + mc) (slots + ms) ls hP2 hD2 hS1 hl (by omega) (by omega)
/-- the pool at the start: the shared empty row alone -/
def S0 (T : Nat → ClassId) : HS := (fun a => if a = T 120 then 30 else 0, fun _ => 0, fun _ _ => 0, fun _ _ => none, fun _ _ => 0, fun _ _ => none)
theorem s0_k (T : Nat → ClassId) : hK (S0 T) (T 120) = 30 := if_pos rfl
theorem s0_L (T : Nat → ClassId) : hL (S0 T) [T 120] := fun a => by
  show a ∈ [T 120] ↔ (if a = T 120 then 30 else 0) ≠ 0
  rw [List.mem_singleton]
  by_cases e : a = T 120
  · rw [if_pos e]; exact ⟨fun _ => by decide, fun _ => e⟩
  · rw [if_neg e]; exact ⟨fun z => absurd z e, fun z => absurd rfl z⟩
theorem s0_w (T : Nat → ClassId) : wt (S0 T) := ⟨fun _ _ => ⟨fun _ => rfl, fun _ => rfl, fun _ => rfl, fun _ => rfl⟩, fun i a b h => (by cases h), fun a k b h => (by cases h), fun i a b h => (by cases h)⟩
theorem s0_e (T : Nat → ClassId) : CW T (S0 T) [T 120] = [] := by
  rw [cw_eq (Or.inl ⟨s0_k T, rfl⟩)]
  have : Lf T [T 120] = [] := by simp [Lf]
  rw [this]
  rfl
theorem rel_0 {ar : Nat → Nat} {r : Nat → Int32} {q : Nat → Nat → Int32} (h : niP (ar, (r, q))) : Rel (fun _ _ => 0) (fun i => if i = 229 then -1 else 0) (fun _ => 0) [] r q := by
  obtain ⟨h1, h2⟩ := h
  have h1 : ∀ j, r j = if j = 12 then -1 else 0 := h1
  have h2 : ∀ j k, q j k = 0 := h2
  refine ⟨funext (h2 0), funext (h2 1), ?_, ?_, fun t k _ _ => h2 3 _, ?_, funext (h2 4), ?_, ?_, ?_, ?_, fun j x hx => ?_⟩
  · rw [h1]; rfl
  · rw [h1]; rfl
  · rw [h1]; rfl
  · rw [h1]; rfl
  · rw [h1]; rfl
  · rw [h1]; rfl
  · rw [h1]; rfl
  · simp at hx
end SROWS
set_option maxRecDepth 100000 in
set_option maxHeartbeats 4000000 in
theorem whole_start {p : Program} {e : Env} {s : State} {m : MethodId} {below : List Frame} {meth : Method} {c : Code} (l : Launch) (hflags : l.flags = flags0) {b L : Nat} {xs : Nat → Int32} (hL : L ≤ 3072) (C0 : lw_At p s m meth c b L xs) : W p l e room_1 s m #[Value.ref b] below meth c s.heap [] 0 0 (lw_Z below #[Value.ref b] s) (entryFrame m ([Value.ref b] : List Value).toArray 9) := by
  obtain ⟨hx, hb, hr, hml, hown, hts, hX, hbl, hlocks, hgv⟩ := C0
  have hst : l.stackTraces = false := by unfold Launch.stackTraces; rw [hflags]; decide
  obtain ⟨A, eA⟩ : ∃ A : Nat → Prop, A = fun q => s.heap.size ≤ q := ⟨_, rfl⟩
  have hA : ∀ q : Nat, s.heap.size ≤ q → A q := fun q h => by rw [eA]; exact h
  have hA' : ∀ q : Nat, A q → s.heap.size ≤ q := fun q h => by rw [eA] at h; exact h
  have hnA : ∀ q : Nat, q < s.heap.size → ¬ A q := fun q h z => absurd (hA' q z) (Nat.not_le.mpr h)
  obtain ⟨D, T, hKK, E, N⟩ := env_of (A := A) hts (show ∀ w ∈ nrL, w.before #[Value.ref b] s = true from flat_of_before _ hgv) hnA
  have h0 := w0_all hts
  have C : GC p s m #[Value.ref b] meth c code RL (Cond.initialized "FreightRaterLaw" :: W0) 9 D A (zty T) := ⟨hx, hb, hml, hown, fun w hw => by
    rcases List.mem_cons.mp hw with h | h
    · rw [h]; exact h0 _ kw_0
    · exact h0 w h, hKK, hA, hlocks⟩
  have hW : ∀ {w : Cond}, w ∈ W0 → w.before #[Value.ref b] s = true := fun h => h0 _ h
  have hl := lv_entry ([.ref b]) (n := 9) (Nat.le_of_ble_eq_true rfl)
  rw [lg_entry_eq]
  generalize (lg_sl ([.ref b]) ++ List.replicate (9 - (lg_sl ([.ref b])).length) Slot.unset).toArray = ls at hl ⊢
  have hl : lv_has ls 9 [(0, .ref b)] := hl
  have G : GW p l e room_1 s m #[Value.ref b] below meth c D A 9 601024 7293034 (lw_Z below #[Value.ref b] s) (CW T (S0 T) [T 120]) 601024 7293034 0 [(0, .ref b)] [] := by
    refine gc_new (kd := 11) (N := 14) C E (s0_w T) (s0_L T) (Nat.le_of_ble_eq_true rfl) (Nat.le_of_ble_eq_true rfl) iwx_X10 tyX10 tyX10_ok (by decide) (by decide) rfl (fun j hj => by rcases (show j = 0 ∨ j = 1 ∨ j = 2 ∨ j = 3 ∨ j = 4 ∨ j = 5 ∨ j = 6 ∨ j = 7 ∨ j = 8 ∨ j = 9 ∨ j = 10 ∨ j = 11 ∨ j = 12 ∨ j = 13 by omega) with rfl | rfl | rfl | rfl | rfl | rfl | rfl | rfl | rfl | rfl | rfl | rfl | rfl | rfl <;> rfl) (hW kw_40) (hW kw_41) (hW kw_1) (by decide) (by decide) dL_law_0 (fun x0 h00 z0 => ?_)
    have w1 := wt_newO (s0_w T) 11 h00 (by decide)
    have l1 := hL_new (S' := newO (S0 T) x0 11) (s0_L T) (show 11 ≠ 0 by decide) rfl
    have k1 : hK (newO (S0 T) x0 11) x0 = 11 := newO_self _ _ _
    refine g_dup C dL_law_3 rfl ?_
    refine gc_callvI (host := "") (ret := none) C E w1 l1 [] rfl (k_X10_init l D T x0 _ 200 2000 k1 ⟨fun i => z0.1 i, by decide, by decide⟩) (w0_I 0 C.2.2.2.2.1 kw_42 kw_43 kw_1 kw_44 rfl rfl rfl (by decide +kernel) ⟨Nat.le_of_ble_eq_true rfl, Nat.le_of_ble_eq_true rfl⟩) rfl (Nat.le_of_ble_eq_true rfl) (Nat.le_of_ble_eq_true rfl) (Nat.le_of_ble_eq_true rfl) (by decide) (by decide) dL_law_4 (fun S2 L2 x2 w2 l2 hp => ?_)
    obtain ⟨a, ea, hF⟩ := hp
    subst ea
    have h120 : hK S2 (T 120) = 30 ∧ hN S2 (T 120) = 0 := li_120 (S := S0 T) ⟨s0_k T, rfl⟩ (ext_tr (ext_newO ext_rf h00 11) x2)
    refine g_astore_n (lv' := [(1, .ref (a 50)), (0, .ref b)]) C dL_law_7 rfl (by decide) rfl ?_
    refine gl_newR C (Nat.le_of_ble_eq_true rfl) (Nat.le_of_ble_eq_true rfl) iwx_X11 (hW kw_1803) (hW kw_1804) (hW kw_9) (by decide) (by decide) dL_law_8 (fun m0 => ?_)
    refine g_dup C dL_law_11 rfl ?_
    refine gl_refn C (k_X11_init l D T m0 13 41780 (by decide) (by decide)) (w0_I 0 C.2.2.2.2.1 kw_1805 kw_1806 kw_9 kw_1807 rfl rfl rfl (by decide +kernel) ⟨Nat.le_of_ble_eq_true rfl, Nat.le_of_ble_eq_true rfl⟩) rfl (Nat.le_of_ble_eq_true rfl) (Nat.le_of_ble_eq_true rfl) (Nat.le_of_ble_eq_true rfl) (by decide) (by decide) dL_law_12 (fun ar r q hni => ?_)
    refine g_astore_n (lv' := [(2, .ref m0), (1, .ref (a 50)), (0, .ref b)]) C dL_law_15 rfl (by decide) rfl ?_
    refine g_iconst (v := 1) C dL_law_16 (by decide) ?_
    refine gl_newJ C (Nat.le_of_ble_eq_true rfl) (Nat.le_of_ble_eq_true rfl) (hW kw_2350) (by decide) (by decide) dL_law_17 (fun ol => ?_)
    refine g_astore_n (lv' := [(3, .ref ol), (2, .ref m0), (1, .ref (a 50)), (0, .ref b)]) C dL_law_19 rfl (by decide) rfl ?_
    refine g_iconst (v := 1) C dL_law_20 (by decide) ?_
    refine gl_newD C (Nat.le_of_ble_eq_true rfl) (Nat.le_of_ble_eq_true rfl) (hW kw_2351) (by decide) (by decide) dL_law_21 (fun od => ?_)
    refine g_astore (lv' := [(4, .ref od), (3, .ref ol), (2, .ref m0), (1, .ref (a 50)), (0, .ref b)]) C dL_law_23 (by decide) rfl ?_
    refine g_iconst (v := nI 0) C dL_law_25 (by decide) ?_
    refine g_istore (lv' := [(5, .int (nI 0)), (4, .ref od), (3, .ref ol), (2, .ref m0), (1, .ref (a 50)), (0, .ref b)]) C dL_law_26 (by decide) rfl ?_
    refine gw_perm (ws' := LWW T ol od m0 ar (fun _ => 0) (fun _ => 0) S2 L2 r q) ?_ ?_
    · exact (List.perm_append_singleton _ _).trans (List.Perm.cons _ ((List.perm_append_singleton _ _).trans (List.Perm.cons _ List.perm_append_comm)))
    refine g_locals [5, 4, 3, 2, 1, 0] rfl ?_
    refine gw_less (kc' := 210 * 512) (ks' := 12400 * 512) (by decide) (by decide) ?_
    exact loop_l hst C E N hX hbl (hnA b hbl) hL (fun i kc ks S L9 r q f fd H locs cells slots ls hP hD hS hl hc hs => by
      refine lv_iconst (v := 1) C.1 C.2.1 dL_law_2334 (by decide) ?_
      refine va_forget (fun q hq => hA' _ (hS.2.2 q hq)) ?_
      refine W.widen (k := 601024) (n := 7293034) (by omega) (by omega) ?_
      refine W.base ?_
      exact lw_ret (Drawn.sameBut.refl s.drawn lw_cs) C.1 C.2.1 hr hlocks dL_law_2335) 512 0 (by omega) (by decide) S2 L2 _ _ _ _ r q _ _ ⟨l2, w2, hF, rel_0 hni, h120⟩
  exact G s.heap [] 0 0 ls (by rw [s0_e]; exact fun k q h => by simp at h) (by rw [s0_e]; exact ⟨fun i j p q h => by simp at h, fun k q h => by simp at h⟩) va_S.rf hl (by decide) (by decide)
end STARTL
