section S_C6F
/-- a row of references, written at once -/
def putBB (S : HS) (y : Nat) (row : Nat → Option Nat) : HS := (hK S, hN S, hI S, hR S, hA S, va_up (hB S) y row)
section GLST
variable {p : Program} {l : Launch} {e : Env} {R : Room} {s : State} {m : MethodId} {args : Array Value} {below : List Frame} {meth : Method} {c : Code} {D : va_G} {A : Nat → Prop} {nL KC KS : Nat} {Q : State → Prop}
variable {ws : va_W} {kc ks pc : Nat} {lv : List (Nat × Value)} {st : List Value} {cc : ByteArray} {own : String} {Ts : List Cond} {T : Nat → ClassId} {S S0 : HS} {L : List Nat} {x : Nat}
theorem bb_K (S : HS) (y : Nat) (row : Nat → Option Nat) : hK (putBB S y row) = hK S := Eq.trans rfl rfl
theorem bb_N (S : HS) (y : Nat) (row : Nat → Option Nat) : hN (putBB S y row) = hN S := Eq.trans rfl rfl
theorem bb_I (S : HS) (y : Nat) (row : Nat → Option Nat) : hI (putBB S y row) = hI S := Eq.trans rfl rfl
theorem bb_R (S : HS) (y : Nat) (row : Nat → Option Nat) : hR (putBB S y row) = hR S := Eq.trans rfl rfl
theorem bb_A (S : HS) (y : Nat) (row : Nat → Option Nat) : hA (putBB S y row) = hA S := Eq.trans rfl rfl
theorem bb_B (S : HS) (y : Nat) (row : Nat → Option Nat) (b : Nat) : hB (putBB S y row) b = if b = y then row else hB S b := Eq.trans rfl rfl
theorem ext_bb {S S' : HS} (h : ext S S') (y : Nat) (row : Nat → Option Nat) : ext S (putBB S' y row) := h
theorem wt_bb {S : HS} (h : wt S) {y : Nat} {row : Nat → Option Nat} (hx : hK S y ≠ 0) (hv : ∀ k b, row k = some b → eok (hK S y) (hK S b)) : wt (putBB S y row) := by
  refine ⟨fun a ha => ?_, h.2.1, fun a j b hb => ?_, h.2.2.2⟩
  · obtain ⟨z1, z2, z3, z4⟩ := h.1 a ha
    refine ⟨z1, z2, z3, fun j => ?_⟩
    rw [bb_B, if_neg (fun z => hx (by rw [← z]; exact ha))]
    exact z4 j
  · rw [bb_B] at hb
    rw [bb_K]
    by_cases g : a = y
    · rw [if_pos g] at hb
      rw [g]
      exact hv j b hb
    · rw [if_neg g] at hb
      exact h.2.2.1 a j b hb
theorem gt_acE (C : GC p s m args meth c cc own Ts nL D A (zty T)) {a b : Nat} {off : Int} {tgt : Nat} (hdg : decode cc pc = .ok (.if_acmp .eq off, 3)) (ht : (pc : Int) + off = (tgt : Int)) (kt : a = b → GW p l e R s m args below meth c D A nL KC KS Q ws kc ks tgt lv st) (kf : ¬ a = b → GW p l e R s m args below meth c D A nL KC KS Q ws kc ks (pc + 3) lv st) : GW p l e R s m args below meth c D A nL KC KS Q ws kc ks pc lv (.ref b :: .ref a :: st) := fun H locs cells slots ls hP hD hS hl hc hs => lv_acmp_eq (rx := some a) (ry := some b) C.1 C.2.1 hdg ht (fun z => kt (Option.some.inj z) H locs cells slots ls hP hD hS hl hc hs) (fun z => kf (fun w => z (by rw [w])) H locs cells slots ls hP hD hS hl hc hs)
theorem gt_acS (C : GC p s m args meth c cc own Ts nL D A (zty T)) {a : Nat} {off : Int} (hdg : decode cc pc = .ok (.if_acmp .ne off, 3)) {tgt : Nat} (ht : (pc : Int) + off = (tgt : Int)) (kf : GW p l e R s m args below meth c D A nL KC KS Q ws kc ks (pc + 3) lv st) : GW p l e R s m args below meth c D A nL KC KS Q ws kc ks pc lv (.ref a :: .ref a :: st) := fun H locs cells slots ls hP hD hS hl hc hs => lv_acmp_ne (rx := some a) (ry := some a) C.1 C.2.1 hdg ht (fun z => absurd rfl z) (fun _ => kf H locs cells slots ls hP hD hS hl hc hs)
theorem gt_cls (C : GC p s m args meth c cc own Ts nL D A (zty T)) (E : GE T A s) {idx : Nat} (hlink : (Cond.classLink own idx "[Ljava/lang/Object;").before args s = true) (hdg : decode cc pc = .ok (.ldc idx, 2)) (k : GW p l e R s m args below meth c D A nL KC KS Q ws kc ks (pc + 2) lv (.ref (T 121) :: st)) : GW p l e R s m args below meth c D A nL KC KS Q ws kc ks pc lv st := fun H locs cells slots ls hP hD hS hl hc hs => va_ldcM C.1 C.2.1 C.2.2.2.1 hlink E.2.2.2.2.2.2.2.2.2.2.2.2.1 hdg (k H locs cells slots ls hP hD hS hl hc hs)
theorem gt_getC (C : GC p s m args meth c cc own Ts nL D A (zty T)) (E : GE T A s) (hL0 : hL S L) {x idx : Nat} (hx : hK S x = 30) (hpos : 0 < hN S x) (hlink : (Cond.methodLink own idx ⟨"java/lang/Object", "getClass", "()Ljava/lang/Class;"⟩).before args s = true) (hsel : (Cond.selects "[Ljava/lang/Object;" ⟨"java/lang/Object", "getClass", "()Ljava/lang/Class;"⟩ ⟨"java/lang/Object", "getClass", "()Ljava/lang/Class;"⟩).before args s = true) (hinst : (Cond.instanceMethod ⟨"java/lang/Object", "getClass", "()Ljava/lang/Class;"⟩).before args s = true) (hnat : (Cond.native ⟨"java/lang/Object", "getClass", "()Ljava/lang/Class;"⟩).before args s = true) (hframes : 1 ≤ R.frames) (hlocals : (st.map fun v => v.category).sum + 14 ≤ R.locals) (hdg : decode cc pc = .ok (.invokevirtual idx, 3)) (k : GW p l e R s m args below meth c D A nL KC KS Q (CW T S L) kc ks (pc + 3) lv (.ref (T 121) :: st)) : GW p l e R s m args below meth c D A nL KC KS Q (CW T S L) kc ks pc lv (.ref x :: st) := by
  intro H locs cells slots ls hP0 hD0 hS hl hc hs
  have hG := cw_gd hP0
  have hP := hP0
  have hD := hD0
  rw [cw_eq hG] at hP hD
  obtain ⟨k0, hk0⟩ := pl_at (f := wF T S) (cw_mem hG hL0 hx (by decide) (Or.inr hpos))
  rw [wF_ref hx (by decide)] at hk0
  have hd : va_Nw (.declares ⟨"java/lang/Object", "getClass", "()Ljava/lang/Class;"⟩) s := E.2.2.2.1 _ (by decide)
  obtain ⟨_, _, _, _, _, hf⟩ := (C.2.2.2.2.2.1.2 10 (T 10, .object "java/lang/Object") rfl).2
  exact va_getC C.1 C.2.1 (C.2.2.1.trans hl.1.symm) C.2.2.2.1 hlink (va_any rfl hd) hsel hinst hnat E.2.2.2.2.2.2.2.2.2.2.2.2.1 ⟨_, hP k0 _ hk0, rfl, hf⟩ hframes hlocals hdg (k H locs cells slots ls hP0 hD0 hS hl hc hs)
theorem gt_castO (C : GC p s m args meth c cc own Ts nL D A (zty T)) (E : GE T A s) (hL0 : hL S L) {x v ke : Nat} (hx : hK S x = 30) (hv : hK S v = ke) (he : ke = 8 ∨ ke = 9) {i : Int32} (hin : vp_in i (hN S x)) (hdg : decode cc pc = .ok (.aastore, 1)) (kk : GW p l e R s m args below meth c D A nL KC KS Q (CW T (putB S x i.toNatClampNeg (some v)) L) kc ks (pc + 1) lv st) : GW p l e R s m args below meth c D A nL KC KS Q (CW T S L) kc ks pc lv (.ref v :: .int i :: .ref x :: st) := by
  intro H locs cells slots ls hP0 hD0 hS hl hc hs
  have hG := cw_gd hP0
  have hP := hP0
  have hD := hD0
  rw [cw_eq hG] at hP hD
  have hm := cw_mem hG hL0 hx (by decide) (Or.inr (in_pos hin))
  obtain ⟨k0, hk0⟩ := pl_at (f := wF T S) hm
  have hk1 := hk0
  rw [wF_ref hx (by decide)] at hk0
  obtain ⟨k2, hk2⟩ := cw_obj hG hL0 hv (by omega) (by omega)
  have hcl : ∃ r : vw_C, vwCl[clx ke]? = some r ∧ va_Nw (.castable r.1 "java/lang/Object") s := by
    rcases he with h | h
    · subst h; exact ⟨_, rfl, E.2.1 (RX7, "java/lang/Object") (by decide)⟩
    · subst h; exact ⟨_, rfl, E.2.1 (RX8, "java/lang/Object") (by decide)⟩
  obtain ⟨r, hr, hca⟩ := hcl
  refine va_astqO C.1 C.2.1 C.2.2.2.2.2.1 hP hD hS k0 10 k2 (clx ke) (r := r) hk0 rfl hca hk2 hr hin hdg (fun H1 locs1 hP1 hD1 hS1 => ?_)
  have e := pl_set (g := wF T (putB S x i.toNatClampNeg (some v))) (e := .inl (T (30 - 20), hN S x, .inr (.inr (.inr (.inr (va_up (hB S x) i.toNatClampNeg (some v))))))) hD hm hk1 (by
    rw [wF_ref (kd := 30) (show hK (putB S x i.toNatClampNeg (some v)) x = 30 from hx) (by decide)]
    have h9 : hB (putB S x i.toNatClampNeg (some v)) x = va_up (hB S x) i.toNatClampNeg (some v) := by
      funext j
      show up2 (hB S) x i.toNatClampNeg (some v) x j = _
      unfold up2 va_up
      by_cases hj : j = i.toNatClampNeg <;> simp [hj]
    rw [h9]; rfl) (fun b hb9 => wF_off rfl rfl (fun j => rfl) (fun j => rfl) rfl (by
      funext j
      show up2 (hB S) x i.toNatClampNeg (some v) b j = _
      exact up2_i _ _ _ _ hb9))
  rw [e, ← cw_eq (T := T) (S := putB S x i.toNatClampNeg (some v)) (L := L) (show okG T (putB S x i.toNatClampNeg (some v)) from hG)] at hP1 hD1
  exact kk H1 locs1 cells slots ls hP1 hD1 hS1 hl hc hs
theorem gt_cpyO (C : GC p s m args meth c cc own Ts nL D A (zty T)) (E : GE T A s) (hL0 : hL S L) {x y ke idx : Nat} (hx : hK S x = 30) (hy : hK S y = 30) (hpos : 0 < hN S x ∧ 0 < hN S y) (he : ke = 8 ∨ ke = 9) (hlink : (Cond.methodLink own idx arraycopyName).before args s = true) (hnat : (Cond.native arraycopyName).before args s = true) (hstat : (Cond.static arraycopyName).before args s = true) (hini : (Cond.initialized "java/lang/System").before args s = true) {sp dp n : Int32} (h1 : ¬ sp < 0) (h2 : ¬ dp < 0) (h3 : ¬ n < 0) (h4 : sp.toNatClampNeg + n.toNatClampNeg ≤ hN S x) (h5 : dp.toNatClampNeg + n.toNatClampNeg ≤ hN S y) (hel : ∀ i : Nat, i < n.toNatClampNeg → ∀ b : Nat, hB S x (sp.toNatClampNeg + i) = some b → hK S b = ke) (hframes : 1 ≤ R.frames) (hlocals : (st.map fun v => v.category).sum + (nativeFrameWords "java/lang/System" "arraycopy" 5 + 11) ≤ R.locals) (hdg : decode cc pc = .ok (.invokestatic idx, 3)) (kk : GW p l e R s m args below meth c D A nL KC KS Q (CW T (putBB S y (va_cpy (hB S x) (hB S y) sp.toNatClampNeg dp.toNatClampNeg n.toNatClampNeg)) L) kc ks (pc + 3) lv st) : GW p l e R s m args below meth c D A nL KC KS Q (CW T S L) kc ks pc lv (.int n :: .int dp :: .ref y :: .int sp :: .ref x :: st) := by
  intro H locs cells slots ls hP0 hD0 hS hl hc hs
  have hG := cw_gd hP0
  have hP := hP0
  have hD := hD0
  rw [cw_eq hG] at hP hD
  obtain ⟨k0, hk0⟩ := pl_at (f := wF T S) (cw_mem hG hL0 hx (by decide) (Or.inr hpos.1))
  rw [wF_ref hx (by decide)] at hk0
  have hm := cw_mem hG hL0 hy (by decide) (Or.inr hpos.2)
  obtain ⟨k2, hk2⟩ := pl_at (f := wF T S) hm
  have hk1 := hk2
  rw [wF_ref hy (by decide)] at hk2
  have hcl : ∃ r : vw_C, vwCl[clx ke]? = some r ∧ va_Nw (.castable r.1 "java/lang/Object") s := by
    rcases he with h | h
    · subst h; exact ⟨_, rfl, E.2.1 (RX7, "java/lang/Object") (by decide)⟩
    · subst h; exact ⟨_, rfl, E.2.1 (RX8, "java/lang/Object") (by decide)⟩
  obtain ⟨r, hr, hca⟩ := hcl
  refine va_copyq (C := r.1) C.1 C.2.1 (C.2.2.1.trans hl.1.symm) C.2.2.2.1 hlink hnat hstat hini C.2.2.2.2.2.1 hP hD hS k0 k2 10 10 hk0 hk2 rfl rfl h1 h2 h3 h4 h5 (fun i hi b hb => ?_) (fun comp c0 => vb_asgC hca comp c0) hframes hlocals hdg (fun H1 locs1 hP1 hD1 hS1 => ?_)
  · obtain ⟨k9, hk9⟩ := cw_obj hG hL0 (hel i hi b hb) (by omega) (by omega)
    exact va_recv C.2.2.2.2.2.1 hP hr hk9
  · have e := pl_set (g := wF T (putBB S y (va_cpy (hB S x) (hB S y) sp.toNatClampNeg dp.toNatClampNeg n.toNatClampNeg))) (e := .inl (T (30 - 20), hN S y, .inr (.inr (.inr (.inr (va_cpy (hB S x) (hB S y) sp.toNatClampNeg dp.toNatClampNeg n.toNatClampNeg)))))) hD hm hk1 (by
      rw [wF_ref (kd := 30) (show hK (putBB S y (va_cpy (hB S x) (hB S y) sp.toNatClampNeg dp.toNatClampNeg n.toNatClampNeg)) y = 30 from hy) (by decide), bb_B, if_pos rfl, bb_N]) (fun b hb9 => wF_off rfl rfl (fun j => rfl) (fun j => rfl) rfl (by rw [bb_B, if_neg hb9]))
    rw [e, ← cw_eq (T := T) (S := putBB S y (va_cpy (hB S x) (hB S y) sp.toNatClampNeg dp.toNatClampNeg n.toNatClampNeg)) (L := L) (show okG T (putBB S y (va_cpy (hB S x) (hB S y) sp.toNatClampNeg dp.toNatClampNeg n.toNatClampNeg)) from hG)] at hP1 hD1
    exact kk H1 locs1 cells slots ls hP1 hD1 hS1 hl hc hs
theorem kw_579 : (Jvm.Cond.sameField "java/util/ArrayList" "java/util/AbstractList" "modCount" "I") ∈ W0 := w0_3 (List.mem_of_getElem? (i := 99) (by decide +kernel)) rfl
theorem gt_getI (C : GC p s m args meth c cc own Ts nL D A (zty T)) {kd N idx i : Nat} {Cn : String} {Tn : u_T} (hin : ∀ w ∈ u_ws Cn Tn N, w ∈ Ts) (hL0 : hL S L) (hx : hK S x = kd) (h0 : kd ≠ 0) (h1 : kd < 20) (hcl : vwCl[clx kd]? = some (Cn, Tn, N)) (k : Nat) (hk : k < N) {rf : String} (hlink : (Cond.fieldLink own idx rf (Tn k).2.1 (Tn k).2.2.1).before args s = true) (hsm : ∀ z, s.fieldFound? (Tn k).1 (Tn k).2.1 (Tn k).2.2.1 = some z → s.fieldFound? rf (Tn k).2.1 (Tn k).2.2.1 = some z) (hb : (shp kd)[k]? = some false) (hi : 20 * kd + k = i) (hdg : decode cc pc = .ok (.getfield idx, 3)) (kk : GW p l e R s m args below meth c D A nL KC KS Q (CW T S L) kc ks (pc + 3) lv (.int (hI S i x) :: st)) : GW p l e R s m args below meth c D A nL KC KS Q (CW T S L) kc ks pc lv (.ref x :: st) := by
  intro H locs cells slots ls hP hD hS hl hc hs
  obtain ⟨k0, hk0⟩ := cw_objC (T := T) hP hL0 hx h0 h1
  have hv := fsl_get (S := S) (a := x) (kd := kd) (shp kd) 0 k hb
  rw [Nat.zero_add, hi] at hv
  exact va_get (D := D) (ci := clx kd) (v := .int (hI S i x)) (C := Cn) (T := Tn) (N := N) C.1 C.2.1 C.2.2.2.2.1 hin C.2.2.2.1 C.2.2.2.2.2.1 hP k0 hk0 hcl k hk hlink hsm hv hdg (kk H locs cells slots ls hP hD hS hl hc hs)
theorem gt_putI (C : GC p s m args meth c cc own Ts nL D A (zty T)) {kd N idx i : Nat} {Cn : String} {Tn : u_T} (hin : ∀ w ∈ u_ws Cn Tn N, w ∈ Ts) (hL0 : hL S L) (hx : hK S x = kd) (h0 : kd ≠ 0) (h1 : kd < 20) (hcl : vwCl[clx kd]? = some (Cn, Tn, N)) (k : Nat) (hk : k < N) {rf : String} (hlink : (Cond.fieldLink own idx rf (Tn k).2.1 (Tn k).2.2.1).before args s = true) (hsm : ∀ z, s.fieldFound? (Tn k).1 (Tn k).2.1 (Tn k).2.2.1 = some z → s.fieldFound? rf (Tn k).2.1 (Tn k).2.2.1 = some z) (tyn : Nat → FieldType) (htyn : ∀ k, k < N → parseFieldDescriptor (Tn k).2.2.1 = some (tyn k)) (hnm : ∀ a, a < N → ∀ b, b < N → a ≠ b → (Tn a).2.1 ≠ (Tn b).2.1) (hb : (shp kd)[k]? = some false) (hi : 20 * kd + k = i) (hfin : (Tn k).2.2.2 = false) {v : Int32} (hn : narrow (tyn k) (.int v) = .int v) (hfit : fits (tyn k) (.int v) = true) (hdg : decode cc pc = .ok (.putfield idx, 3)) (kk : GW p l e R s m args below meth c D A nL KC KS Q (CW T (putI S i x v) L) kc ks (pc + 3) lv st) : GW p l e R s m args below meth c D A nL KC KS Q (CW T S L) kc ks pc lv (.int v :: .ref x :: st) := by
  intro H locs cells slots ls hP0 hD0 hS hl hc hs
  have hG := cw_gd hP0
  have hP := hP0
  have hD := hD0
  rw [cw_eq hG] at hP hD
  obtain ⟨k0, hk0⟩ := cw_obj hG hL0 hx h0 h1
  have hm := cw_mem hG hL0 hx h0 (Or.inl (by omega))
  have hlen : k < (fsl S x kd 0 (shp kd)).length := by rw [fsl_len]; exact (List.getElem?_eq_some_iff.mp hb).1
  refine va_put (D := D) (ci := clx kd) (v := .int v) (ty := tyn k) (C := Cn) (T := Tn) (N := N) C.1 C.2.1 C.2.2.2.2.1 hin tyn htyn hnm C.2.2.2.1 C.2.2.2.2.2.1 hP hD hS k0 hk0 hcl k hk hlink hsm hfin (htyn k hk) hn hfit hlen hdg (fun H1 locs1 hP1 hD1 hS1 => ?_)
  have e := pl_set (g := wF T (putI S i x v)) (e := .inr (clx kd, (fsl S x kd 0 (shp kd)).set k (.int v))) hD hm (by rw [wF_obj hx h1]; exact hk0) (by
    rw [wF_obj (kd := kd) (show hK (putI S i x v) x = kd from hx) h1, ← hi]
    have h9 := fsl_setI (S := S) (a := x) (kd := kd) (v := v) (shp kd) 0 k hb
    rw [Nat.zero_add] at h9
    rw [h9]) (fun b hb9 => wF_off rfl rfl (fun j => up2_a _ _ _ _ hb9) (fun j => rfl) rfl rfl)
  rw [e, ← cw_eq (T := T) (S := putI S i x v) (L := L) (show okG T (putI S i x v) from hG)] at hP1 hD1
  exact kk H1 locs1 cells slots ls hP1 hD1 hS1 hl hc hs
theorem gc_callqS (C : GC p s m args meth c cc own Ts nL D A (zty T)) {y : MethodName} {bytes : ByteArray} {maxL n idx mc ms : Nat} {ret : Option FieldType} {wsY : List Cond} {rmY : Room} {host : String} {kd : Nat} {post : Option Nat → HS → Prop} (E : GE T A s) (hw : wt S) (hL0 : hL S L) (As : List Value) {stk : List Value} (hst : stk = As.reverse ++ st) (hM : CMq l y wsY rmY D T As S mc ms kd post) (cw : CallB R s args own idx y bytes maxL ret wsY { rmY with cells := mc, slots := ms } mc ms n ∧ (Cond.static y).before args s = true) (hn : As.length = n) (hroom : (st.map fun v => v.category).sum ≤ 8) (hKC : KC ≤ R.cells) (hKS : KS ≤ R.slots) (hkc : mc ≤ kc) (hks : ms ≤ ks) (hdg : decode cc pc = .ok (.invokestatic idx, 3)) (kk : ∀ (v : Option Nat) (S1 : HS) (L1 : List Nat), ext S S1 → wt S1 → hL S1 L1 → (∀ b, v = some b → hK S1 b = kd) → post v S1 → GW p l e R s m args below meth c D A nL KC KS Q (CW T S1 L1) (kc - mc) (ks - ms) (pc + 3) lv (va_rf v :: st)) : GW p l e R s m args below meth c D A nL KC KS Q (CW T S L) kc ks pc lv stk := by
  subst hst
  intro H locs cells slots ls hP hD hS hl hc hs
  have hFc : ∀ z, va_A (CW T S L) H.size z → A z := fun z h => by
    rcases h with ⟨k, e, h⟩ | h
    · exact hD.2 k _ h
    · exact C.2.2.2.2.2.2.1 z (Nat.le_trans hS.1 h)
  refine va_callq (va_runS (As := As) (rest := st) ⟨C.1, C.2.1, C.2.2.1, C.2.2.2.1, C.2.2.2.2.1⟩ (hM H.size L hL0 hw) cw ⟨CB_blind, fun U hU hW => ⟨rfl, by rw [hU], by rw [hU]; exact hP, va_K.moved hW.alike C.2.2.2.2.2.1, hD.weaken (fun _ _ _ _ => trivial), GE_call E hS hU hW hFc⟩⟩ rfl hn hl.1 rfl (lv_room hroom) hdg ⟨by omega, by omega⟩) hS (fun z _ h => hFc z h) hFc (fun v u t H1 locs1 ht hvm hw9 hB hz1 hk1 hS1 => ?_)
  obtain ⟨⟨hp1, hp2⟩, hx1, hw1, hL1⟩ := hw9
  obtain ⟨S1, L1⟩ := u
  obtain ⟨hP1, hK1, hD1⟩ := hB
  rw [ht] at hP1
  exact kk v S1 L1 hx1 hw1 hL1 hp2 hp1 H1 locs1 (cells + mc) (slots + ms) ls hP1 (hD1.weaken (fun _ z _ h => hFc z.1 h)) hS1 hl (by omega) (by omega)
theorem cpy_ok {S : HS} (hw : wt S) {x y : Nat} (hx : hK S x = 30) (hy : hK S y = 30) (sp dp n : Nat) : ∀ k b, va_cpy (hB S x) (hB S y) sp dp n k = some b → eok (hK S y) (hK S b) := fun k b hb => by
  unfold va_cpy at hb
  by_cases c : dp ≤ k ∧ k < dp + n
  · rw [if_pos c] at hb
    rw [hy, ← hx]
    exact hw.2.2.1 x _ b hb
  · rw [if_neg c] at hb
    exact hw.2.2.1 y _ b hb
theorem ob_ne {k : Nat} (h : k = 8 ∨ k = 9) : k ≠ 0 := by omega
end GLST

end S_C6F
