section GCLSN
variable {p : Program} {l : Launch} {e : Env} {R : Room} {s : State} {m : MethodId} {args : Array Value} {below : List Frame} {meth : Method} {c : Code} {D : va_G} {A : Nat → Prop} {nL KC KS : Nat} {Q : State → Prop}
variable {kc ks pc : Nat} {lv : List (Nat × Value)} {st : List Value} {cc : ByteArray} {own : String} {Ts : List Cond} {T : Nat → ClassId} {S S0 : HS} {L : List Nat} {x : Nat}
def dfl (bs : List Bool) : List Value := bs.map (fun b => if b then .null else .int 0)
theorem fsl_zr {S : HS} {a kd : Nat} (h : zr S a) : ∀ (bs : List Bool) (j : Nat), fsl S a kd j bs = dfl bs
  | [], j => rfl
  | b :: bs, j => by
    show (if b then va_rf (hR S (20 * kd + j) a) else .int (hI S (20 * kd + j) a)) :: fsl S a kd (j + 1) bs = (if b then .null else .int 0) :: dfl bs
    rw [fsl_zr h bs (j + 1), h.1, h.2.1]
    rfl
/-- an option that is known not to be null -/
theorem g_opt {ws : va_W} {o : Option Nat} {b : Nat} (h : o = some b) (k : GW p l e R s m args below meth c D A nL KC KS Q ws kc ks pc lv (.ref b :: st)) : GW p l e R s m args below meth c D A nL KC KS Q ws kc ks pc lv (va_rf o :: st) := by subst h; exact k
theorem gc_new (C : GC p s m args meth c cc own Ts nL D A (zty T)) (E : GE T A s) (hw : wt S) (hL0 : hL S L) (hKC : KC ≤ R.cells) (hKS : KS ≤ R.slots) {kd N idx : Nat} {Cn : String} {Tn : u_T} (hin : ∀ w ∈ u_ws Cn Tn N, w ∈ Ts) (tyn : Nat → FieldType) (htyn : ∀ k, k < N → parseFieldDescriptor (Tn k).2.2.1 = some (tyn k)) (h0 : kd ≠ 0) (h1 : kd < 20) (hcl : vwCl[clx kd]? = some (Cn, Tn, N)) (hdf : ∀ j, j < N → defaultValue (tyn j) = vp_V (dfl (shp kd)) j) (hlink : (Cond.classLink own idx Cn).before args s = true) (hinst : (Cond.instantiable Cn N).before args s = true) (hini : (Cond.initialized Cn).before args s = true) (hkc : 1 ≤ kc) (hks : N ≤ ks) (hdg : decode cc pc = .ok (.new idx, 3)) (kk : ∀ q : Nat, hK S q = 0 → zr S q → GW p l e R s m args below meth c D A nL KC KS Q (CW T (newO S q kd) (L ++ [q])) (kc - 1) (ks - N) (pc + 3) lv (.ref q :: st)) : GW p l e R s m args below meth c D A nL KC KS Q (CW T S L) kc ks pc lv st := by
  intro H locs cells slots ls hP0 hD0 hS hl hc hs
  have hG := cw_gd hP0
  have hP := hP0
  have hD := hD0
  rw [cw_eq hG] at hP hD
  refine va_new (ci := clx kd) (fs := dfl (shp kd)) (C := Cn) (T := Tn) (N := N) C.1 C.2.1 C.2.2.2.2.1 hin tyn htyn C.2.2.2.1 hlink hinst hini C.2.2.2.2.2.1 hP hD hS C.2.2.2.2.2.2.1 hcl hdf (by omega) (by omega) hdg (fun q H1 hP1 hD1 hS1 => ?_)
  have hne : q ≠ T 120 := cw_ne E hD1
  have hq : hK S q = 0 := by
    by_cases hz : hK S q = 0
    · exact hz
    · have h9 := (pl_push (f := wF T S) (g := va_up (wF T S) q (.inr (clx kd, dfl (shp kd)))) hD1 (va_up_self _ _ _) (fun b hb => va_up_ne _ _ hb)).1
      exact absurd (Lf_mem ((hL0 q).mpr hz) hne) h9
  have hz := hw.1 q hq
  obtain ⟨hq2, e⟩ := pl_push (f := wF T S) (g := wF T (newO S q kd)) hD1 (by
    rw [wF_obj (newO_self S q kd) h1]
    exact congrArg (fun z => (.inr (clx kd, z) : va_E)) (fsl_zr (S := newO S q kd) hz _ _)) (fun b hb => wF_off (va_up_ne _ _ hb) rfl (fun _ => rfl) (fun _ => rfl) rfl rfl)
  rw [e, cw_nw (S' := newO S q kd) hG hne (va_up_ne _ _ (Ne.symm hne)) rfl] at hP1 hD1
  exact kk q hq hz H1 locs (cells + 1) (slots + N) ls hP1 hD1 hS1 hl (by omega) (by omega)
theorem gc_newi (C : GC p s m args meth c cc own Ts nL D A (zty T)) (E : GE T A s) (hw : wt S) (hL0 : hL S L) (hKC : KC ≤ R.cells) (hKS : KS ≤ R.slots) (harr : (Cond.arrayClass .int).before args s = true) {n : Int32} (hn : ¬ n < 0) (hb9 : n.toNatClampNeg ≤ 100000000) (hkc : 1 ≤ kc) (hks : n.toNatClampNeg ≤ ks) (hdg : decode cc pc = .ok (.newarray .int, 2)) (kk : ∀ q : Nat, hK S q = 0 → zr S q → GW p l e R s m args below meth c D A nL KC KS Q (CW T (newA S q 22 n.toNatClampNeg) (L ++ [q])) (kc - 1) (ks - n.toNatClampNeg) (pc + 2) lv (.ref q :: st)) : GW p l e R s m args below meth c D A nL KC KS Q (CW T S L) kc ks pc lv (.int n :: st) := by
  intro H locs cells slots ls hP0 hD0 hS hl hc hs
  have hG := cw_gd hP0
  have hP := hP0
  have hD := hD0
  rw [cw_eq hG] at hP hD
  refine va_newa (atype := .int) (ty := .int) (N' := n.toNatClampNeg) (a0 := (n.toNatClampNeg, .inl (fun _ => 0))) C.1 C.2.1 harr rfl C.2.2.2.2.2.1 hP hD hS C.2.2.2.2.2.2.1 (fun cA => rfl) hn rfl (Nat.le_trans (Nat.mul_le_mul hb9 (show componentBytes .int ≤ 4 from by decide)) (by decide)) (by omega) (by omega) hdg (fun q cA H1 hK1 hP1 hD1 hS1 => ?_)
  have hcA : cA = T 2 := by
    have h1 := (hK1.2 (zty T).length (cA, .int) (by simp)).2
    have h2 := (C.2.2.2.2.2.1.2 2 (T 2, .int) rfl).2
    exact Option.some.inj (h1.symm.trans h2)
  subst hcA
  have hne : q ≠ T 120 := cw_ne E hD1
  have hq : hK S q = 0 := by
    by_cases hz : hK S q = 0
    · exact hz
    · have h9 := (pl_push (f := wF T S) (g := va_up (wF T S) q (.inl (T 2, (n.toNatClampNeg, .inl (fun _ => 0))))) hD1 (va_up_self _ _ _) (fun b hb => va_up_ne _ _ hb)).1
      exact absurd (Lf_mem ((hL0 q).mpr hz) hne) h9
  have hz := hw.1 q hq
  obtain ⟨hq2, e⟩ := pl_push (f := wF T S) (g := wF T (newA S q 22 n.toNatClampNeg)) hD1 (by
    rw [wF_int (newA_self S q 22 n.toNatClampNeg) (by decide) (by decide)]
    show (.inl (T (22 - 20), va_up (hN S) q n.toNatClampNeg q, .inl (hA S q)) : va_E) = _
    rw [va_up_self, show hA S q = fun _ => 0 from funext hz.2.2.1]) (fun b hb => wF_off (va_up_ne _ _ hb) (va_up_ne _ _ hb) (fun _ => rfl) (fun _ => rfl) rfl rfl)
  rw [e, cw_nw (S' := newA S q 22 n.toNatClampNeg) hG hne (va_up_ne _ _ (Ne.symm hne)) (va_up_ne _ _ (Ne.symm hne))] at hP1 hD1
  exact kk q hq hz H1 locs (cells + 1) (slots + n.toNatClampNeg) ls hP1 hD1 hS1 hl (by omega) (by omega)
theorem gc_newc (C : GC p s m args meth c cc own Ts nL D A (zty T)) (E : GE T A s) (hw : wt S) (hL0 : hL S L) (hKC : KC ≤ R.cells) (hKS : KS ≤ R.slots) (harr : (Cond.arrayClass .char).before args s = true) {n : Int32} (hn : ¬ n < 0) (hb9 : n.toNatClampNeg ≤ 100000000) (hkc : 1 ≤ kc) (hks : n.toNatClampNeg ≤ ks) (hdg : decode cc pc = .ok (.newarray .char, 2)) (kk : ∀ q : Nat, hK S q = 0 → zr S q → GW p l e R s m args below meth c D A nL KC KS Q (CW T (newA S q 21 n.toNatClampNeg) (L ++ [q])) (kc - 1) (ks - n.toNatClampNeg) (pc + 2) lv (.ref q :: st)) : GW p l e R s m args below meth c D A nL KC KS Q (CW T S L) kc ks pc lv (.int n :: st) := by
  intro H locs cells slots ls hP0 hD0 hS hl hc hs
  have hG := cw_gd hP0
  have hP := hP0
  have hD := hD0
  rw [cw_eq hG] at hP hD
  refine va_newa (atype := .char) (ty := .char) (N' := n.toNatClampNeg) (a0 := (n.toNatClampNeg, .inl (fun _ => 0))) C.1 C.2.1 harr rfl C.2.2.2.2.2.1 hP hD hS C.2.2.2.2.2.2.1 (fun cA => rfl) hn rfl (Nat.le_trans (Nat.mul_le_mul hb9 (show componentBytes .char ≤ 4 from by decide)) (by decide)) (by omega) (by omega) hdg (fun q cA H1 hK1 hP1 hD1 hS1 => ?_)
  have hcA : cA = T 1 := by
    have h1 := (hK1.2 (zty T).length (cA, .char) (by simp)).2
    have h2 := (C.2.2.2.2.2.1.2 1 (T 1, .char) rfl).2
    exact Option.some.inj (h1.symm.trans h2)
  subst hcA
  have hne : q ≠ T 120 := cw_ne E hD1
  have hq : hK S q = 0 := by
    by_cases hz : hK S q = 0
    · exact hz
    · have h9 := (pl_push (f := wF T S) (g := va_up (wF T S) q (.inl (T 1, (n.toNatClampNeg, .inl (fun _ => 0))))) hD1 (va_up_self _ _ _) (fun b hb => va_up_ne _ _ hb)).1
      exact absurd (Lf_mem ((hL0 q).mpr hz) hne) h9
  have hz := hw.1 q hq
  obtain ⟨hq2, e⟩ := pl_push (f := wF T S) (g := wF T (newA S q 21 n.toNatClampNeg)) hD1 (by
    rw [wF_int (newA_self S q 21 n.toNatClampNeg) (by decide) (by decide)]
    show (.inl (T (21 - 20), va_up (hN S) q n.toNatClampNeg q, .inl (hA S q)) : va_E) = _
    rw [va_up_self, show hA S q = fun _ => 0 from funext hz.2.2.1]) (fun b hb => wF_off (va_up_ne _ _ hb) (va_up_ne _ _ hb) (fun _ => rfl) (fun _ => rfl) rfl rfl)
  rw [e, cw_nw (S' := newA S q 21 n.toNatClampNeg) hG hne (va_up_ne _ _ (Ne.symm hne)) (va_up_ne _ _ (Ne.symm hne))] at hP1 hD1
  exact kk q hq hz H1 locs (cells + 1) (slots + n.toNatClampNeg) ls hP1 hD1 hS1 hl (by omega) (by omega)
theorem gc_newb (C : GC p s m args meth c cc own Ts nL D A (zty T)) (E : GE T A s) (hw : wt S) (hL0 : hL S L) (hKC : KC ≤ R.cells) (hKS : KS ≤ R.slots) (harr : (Cond.arrayClass .byte).before args s = true) {n : Int32} (hn : ¬ n < 0) (hb9 : n.toNatClampNeg ≤ 100000000) (hkc : 1 ≤ kc) (hks : n.toNatClampNeg ≤ ks) (hdg : decode cc pc = .ok (.newarray .byte, 2)) (kk : ∀ q : Nat, hK S q = 0 → zr S q → GW p l e R s m args below meth c D A nL KC KS Q (CW T (newA S q 20 n.toNatClampNeg) (L ++ [q])) (kc - 1) (ks - n.toNatClampNeg) (pc + 2) lv (.ref q :: st)) : GW p l e R s m args below meth c D A nL KC KS Q (CW T S L) kc ks pc lv (.int n :: st) := by
  intro H locs cells slots ls hP0 hD0 hS hl hc hs
  have hG := cw_gd hP0
  have hP := hP0
  have hD := hD0
  rw [cw_eq hG] at hP hD
  refine va_newa (atype := .byte) (ty := .byte) (N' := n.toNatClampNeg) (a0 := (n.toNatClampNeg, .inl (fun _ => 0))) C.1 C.2.1 harr rfl C.2.2.2.2.2.1 hP hD hS C.2.2.2.2.2.2.1 (fun cA => rfl) hn rfl (Nat.le_trans (Nat.mul_le_mul hb9 (show componentBytes .byte ≤ 4 from by decide)) (by decide)) (by omega) (by omega) hdg (fun q cA H1 hK1 hP1 hD1 hS1 => ?_)
  have hcA : cA = T 0 := by
    have h1 := (hK1.2 (zty T).length (cA, .byte) (by simp)).2
    have h2 := (C.2.2.2.2.2.1.2 0 (T 0, .byte) rfl).2
    exact Option.some.inj (h1.symm.trans h2)
  subst hcA
  have hne : q ≠ T 120 := cw_ne E hD1
  have hq : hK S q = 0 := by
    by_cases hz : hK S q = 0
    · exact hz
    · have h9 := (pl_push (f := wF T S) (g := va_up (wF T S) q (.inl (T 0, (n.toNatClampNeg, .inl (fun _ => 0))))) hD1 (va_up_self _ _ _) (fun b hb => va_up_ne _ _ hb)).1
      exact absurd (Lf_mem ((hL0 q).mpr hz) hne) h9
  have hz := hw.1 q hq
  obtain ⟨hq2, e⟩ := pl_push (f := wF T S) (g := wF T (newA S q 20 n.toNatClampNeg)) hD1 (by
    rw [wF_int (newA_self S q 20 n.toNatClampNeg) (by decide) (by decide)]
    show (.inl (T (20 - 20), va_up (hN S) q n.toNatClampNeg q, .inl (hA S q)) : va_E) = _
    rw [va_up_self, show hA S q = fun _ => 0 from funext hz.2.2.1]) (fun b hb => wF_off (va_up_ne _ _ hb) (va_up_ne _ _ hb) (fun _ => rfl) (fun _ => rfl) rfl rfl)
  rw [e, cw_nw (S' := newA S q 20 n.toNatClampNeg) hG hne (va_up_ne _ _ (Ne.symm hne)) (va_up_ne _ _ (Ne.symm hne))] at hP1 hD1
  exact kk q hq hz H1 locs (cells + 1) (slots + n.toNatClampNeg) ls hP1 hD1 hS1 hl (by omega) (by omega)
theorem gc_anew (C : GC p s m args meth c cc own Ts nL D A (zty T)) (E : GE T A s) (hw : wt S) (hL0 : hL S L) (hKC : KC ≤ R.cells) (hKS : KS ≤ R.slots) {kd idx : Nat} {Cn : String} (hov : Cn ∈ overL) (h0 : 25 ≤ kd) (ht : (zty T)[kd - 20]? = some (T (kd - 20), .object Cn)) (hlink : (Cond.classLink own idx Cn).before args s = true) {n : Int32} (hn : ¬ n < 0) (hb9 : n.toNatClampNeg ≤ 100000000) (hkc : 1 ≤ kc) (hks : n.toNatClampNeg ≤ ks) (hdg : decode cc pc = .ok (.anewarray idx, 3)) (kk : ∀ q : Nat, hK S q = 0 → zr S q → GW p l e R s m args below meth c D A nL KC KS Q (CW T (newA S q kd n.toNatClampNeg) (L ++ [q])) (kc - 1) (ks - n.toNatClampNeg) (pc + 3) lv (.ref q :: st)) : GW p l e R s m args below meth c D A nL KC KS Q (CW T S L) kc ks pc lv (.int n :: st) := by
  intro H locs cells slots ls hP0 hD0 hS hl hc hs
  have hG := cw_gd hP0
  have hP := hP0
  have hD := hD0
  rw [cw_eq hG] at hP hD
  refine va_newq (N' := n.toNatClampNeg) C.1 C.2.1 C.2.2.2.1 hlink (E.2.2.1 Cn hov) C.2.2.2.2.2.1 hP hD hS C.2.2.2.2.2.2.1 hn rfl (by omega) (by omega) (by omega) hdg (fun q cA H1 hK1 hP1 hD1 hS1 => ?_)
  have hcA : cA = T (kd - 20) := by
    obtain ⟨_, _, _, _, _, h1⟩ := (hK1.2 (zty T).length (cA, .object Cn) (by simp)).2
    obtain ⟨_, _, _, _, _, h2⟩ := (C.2.2.2.2.2.1.2 (kd - 20) (T (kd - 20), .object Cn) ht).2
    exact Option.some.inj (h1.symm.trans h2)
  subst hcA
  have hne : q ≠ T 120 := cw_ne E hD1
  have hq : hK S q = 0 := by
    by_cases hz : hK S q = 0
    · exact hz
    · have h9 := (pl_push (f := wF T S) (g := va_up (wF T S) q (.inl (T (kd - 20), (n.toNatClampNeg, .inr (.inr (.inr (.inr (fun _ => none)))))))) hD1 (va_up_self _ _ _) (fun b hb => va_up_ne _ _ hb)).1
      exact absurd (Lf_mem ((hL0 q).mpr hz) hne) h9
  have hz := hw.1 q hq
  obtain ⟨hq2, e⟩ := pl_push (f := wF T S) (g := wF T (newA S q kd n.toNatClampNeg)) hD1 (by
    rw [wF_ref (newA_self S q kd n.toNatClampNeg) h0]
    show (.inl (T (kd - 20), va_up (hN S) q n.toNatClampNeg q, .inr (.inr (.inr (.inr (hB S q))))) : va_E) = _
    rw [va_up_self, show hB S q = fun _ => none from funext hz.2.2.2]) (fun b hb => wF_off (va_up_ne _ _ hb) (va_up_ne _ _ hb) (fun _ => rfl) (fun _ => rfl) rfl rfl)
  rw [e, cw_nw (S' := newA S q kd n.toNatClampNeg) hG hne (va_up_ne _ _ (Ne.symm hne)) (va_up_ne _ _ (Ne.symm hne))] at hP1 hD1
  exact kk q hq hz H1 locs (cells + 1) (slots + n.toNatClampNeg) ls hP1 hD1 hS1 hl (by omega) (by omega)
theorem gc_clone (C : GC p s m args meth c cc own Ts nL D A (zty T)) (E : GE T A s) (hw : wt S) (hL0 : hL S L) (hKC : KC ≤ R.cells) (hKS : KS ≤ R.slots) {idx : Nat} (hx : hK S x = 22) (hlink : (Cond.methodLink own idx ⟨"[I", "clone", "()Ljava/lang/Object;"⟩).before args s = true) (hsame : (Cond.sameMethod "[I" "java/lang/Object" "clone" "()Ljava/lang/Object;").before args s = true) (hnat : (Cond.native ⟨"java/lang/Object", "clone", "()Ljava/lang/Object;"⟩).before args s = true) (hinst : (Cond.instanceMethod ⟨"java/lang/Object", "clone", "()Ljava/lang/Object;"⟩).before args s = true) (hsel : (Cond.selects "[I" ⟨"[I", "clone", "()Ljava/lang/Object;"⟩ ⟨"java/lang/Object", "clone", "()Ljava/lang/Object;"⟩).before args s = true) (hcs : ("[I", "java/lang/Cloneable") ∈ castL) (hframes : 1 ≤ R.frames) (hlocals : (st.map fun v => v.category).sum + 14 ≤ R.locals) (hkc : 1 ≤ kc) (hks : hN S x ≤ ks) (hdg : decode cc pc = .ok (.invokevirtual idx, 3)) (kk : ∀ q : Nat, hK S q = 0 → zr S q → GW p l e R s m args below meth c D A nL KC KS Q (CW T (newC S q 22 (hN S x) (hA S x)) (L ++ [q])) (kc - 1) (ks - hN S x) (pc + 3) lv (.ref q :: st)) : GW p l e R s m args below meth c D A nL KC KS Q (CW T S L) kc ks pc lv (.ref x :: st) := by
  intro H locs cells slots ls hP0 hD0 hS hl hc hs
  have hG := cw_gd hP0
  have hP := hP0
  have hD := hD0
  rw [cw_eq hG] at hP hD
  obtain ⟨k0, hk0⟩ := pl_at (f := wF T S) (cw_mem hG hL0 hx (by decide) (Or.inl (by decide)))
  rw [wF_int hx (by decide) (by decide)] at hk0
  have hnm := (C.2.2.2.2.2.1.2 2 (T 2, .int) rfl).2
  refine va_clone C.1 C.2.1 (C.2.2.1.trans hl.1.symm) C.2.2.2.1 hlink hsame hnat hinst hsel (E.2.1 _ hcs) C.2.2.2.2.2.1 hP hD hS C.2.2.2.2.2.2.1 k0 2 hk0 rfl hnm (fun i v hv => by
    have hv' : (arrV (T 2) (hN S x) (fun j => .int (hA S x j))).slots[i]? = some v := hv
    have hi := (Array.getElem?_eq_some_iff.mp hv').1
    rw [arrV_size] at hi
    rw [arrV_read _ _ hi] at hv'
    cases hv'
    rfl) hframes hlocals (by omega) (by show slots + hN S x ≤ R.slots; omega) hdg (fun q H1 hK1 hP1 hD1 hS1 => ?_)
  have hne : q ≠ T 120 := cw_ne E hD1
  have hq : hK S q = 0 := by
    by_cases hz : hK S q = 0
    · exact hz
    · have h9 := (pl_push (f := wF T S) (g := va_up (wF T S) q (.inl (T 2, (hN S x, .inl (hA S x))))) hD1 (va_up_self _ _ _) (fun b hb => va_up_ne _ _ hb)).1
      exact absurd (Lf_mem ((hL0 q).mpr hz) hne) h9
  have hz := hw.1 q hq
  obtain ⟨hq2, e⟩ := pl_push (f := wF T S) (g := wF T (newC S q 22 (hN S x) (hA S x))) hD1 (by
    rw [wF_int (newC_self S q 22 (hN S x) (hA S x)) (by decide) (by decide)]
    show (.inl (T (22 - 20), va_up (hN S) q (hN S x) q, .inl (va_up (hA S) q (hA S x) q)) : va_E) = _
    rw [va_up_self, va_up_self]) (fun b hb => wF_off (va_up_ne _ _ hb) (va_up_ne _ _ hb) (fun _ => rfl) (fun _ => rfl) (va_up_ne _ _ hb) rfl)
  rw [e, cw_nw (S' := newC S q 22 (hN S x) (hA S x)) hG hne (va_up_ne _ _ (Ne.symm hne)) (va_up_ne _ _ (Ne.symm hne))] at hP1 hD1
  exact kk q hq hz H1 locs (cells + 1) (slots + hN S x) ls hP1 hD1 hS1 hl (by omega) (by show slots + hN S x + (ks - hN S x) ≤ KS; omega)
/-- a call of a method that answers a reference, or throws (by the same steps as the kit's vx_calli) -/
theorem gx_callq {S SX : Type} {post : Option Nat → S → Prop} {px : SX → Prop} {B : S → State → Prop} {BX : String → SX → State → Prop} {AX A0 A1 : Nat → Prop} {H H0 : Heap} {locs : List Loc} {cells slots mc ms : Nat} {free : Addr → Prop} {a : Array Value} {ls : Array Slot} {st0 rest : List Value} (hr : vx_Run p l e R s m args below meth c H locs cells slots mc ms (F0 m pc ls st0) rest (va_Qq post B A1 a) (vx_X px BX AX) free) (hS : va_S A0 H0 H locs) (hA : ∀ q, q < H.size → A1 q → A0 q) (hf : ∀ q, free q → A0 q) (hAX : ∀ q, q < H.size → AX q → A0 q)
    (kx : ∀ (E : String) (ce : Cell) (q9 : Addr) (u : SX) (t : State) (H1 : Heap) (locs1 : List Loc), t.heap = H1 → s.vm.Alike t.vm → px u → BX E u t → H.size ≤ H1.size → (∀ q : Nat, q < H.size → ¬ AX q → H1[q]? = H[q]?) → va_S A0 H0 H1 locs1 → H1[q9]? = some ce → ce.vm = .none → s.vm.findClass E = some ce.cls → vx_W p l e R s m args below meth c H1 locs1 (cells + mc) (slots + ms) Q (F0 m pc ls rest) q9)
    (kk : ∀ (r : Option Nat) (u : S) (t : State) (H1 : Heap) (locs1 : List Loc), t.heap = H1 → s.vm.Alike t.vm → post r u → B u t → H.size ≤ H1.size → (∀ q : Nat, q < H.size → ¬ A1 q → H1[q]? = H[q]?) → va_S A0 H0 H1 locs1 → W p l e R s m args below meth c H1 locs1 (cells + mc) (slots + ms) Q (F0 m (pc + 3) ls (va_rf r :: rest))) : W p l e R s m args below meth c H locs cells slots Q (F0 m pc ls st0) := by
  intro T hT X
  rcases hr T hT X with ⟨v, st₀, t, T', L, h0, X', hL, e1, e2, ⟨⟨r, u, hv, hp, hb⟩, hF⟩, st⟩ | ⟨q, st₀, t, T', L, E, ce, h0, X', hL, e1, e2, ⟨u, hp, hb, hF⟩, hce, hcv, hcl, st⟩
  · cases hv
    obtain ⟨k1, k2, k3⟩ := vx_keep h0 e1 hS hA hf hL hF
    obtain ⟨t2, a1, b1⟩ := kk r u t T'.heap (locs ++ L) e1.symm (by rw [← e2]; exact X'.warmed.alike) hp hb k1 k2 k3 T' rfl X'
    exact ⟨t2, st t2 a1, b1⟩
  · obtain ⟨k1, k2, k3⟩ := vx_keep h0 e1 hS hAX hf hL hF
    obtain ⟨t2, a1, b1⟩ := kx E ce q u t T'.heap (locs ++ L) e1.symm (by rw [← e2]; exact X'.warmed.alike) hp hb k1 k2 k3 (by rw [e1]; exact hce) hcv hcl T' rfl X'
    exact ⟨t2, st.trans a1, b1⟩
theorem gc_calliV (C : GC p s m args meth c cc own Ts nL D A (zty T)) {y : MethodName} {bytes : ByteArray} {maxL n idx mc ms : Nat} {ret : Option FieldType} {wsY : List Cond} {rmY : Room} {host : String} {post : Int32 → HS → Prop} (E : GE T A s) (hw : wt S) (hL0 : hL S L) {kr Nr : Nat} {Cn : String} {Tn : u_T} (hx : hK S x = kr) (hr0 : kr ≠ 0) (hr1 : kr < 20) (hcl : vwCl[clx kr]? = some (Cn, Tn, Nr)) (As : List Value) {stk : List Value} (hst : stk = As.reverse ++ .ref x :: st) (hM : CMi l y wsY rmY D T (.ref x :: As) S mc ms post) (cw : CallW R s args own Cn idx y bytes maxL ret wsY { rmY with cells := mc, slots := ms } mc ms n) (hn : As.length = n) (hroom : (st.map fun v => v.category).sum ≤ 8) (hKC : KC ≤ R.cells) (hKS : KS ≤ R.slots) (hkc : mc ≤ kc) (hks : ms ≤ ks) (hdg : decode cc pc = .ok (.invokevirtual idx, 3)) (kk : ∀ (v : Int32) (S1 : HS) (L1 : List Nat), ext S S1 → wt S1 → hL S1 L1 → post v S1 → GW p l e R s m args below meth c D A nL KC KS Q (CW T S1 L1) (kc - mc) (ks - ms) (pc + 3) lv (.int v :: st)) : GW p l e R s m args below meth c D A nL KC KS Q (CW T S L) kc ks pc lv stk := by
  subst hst
  intro H locs cells slots ls hP hD hS hl hc hs
  obtain ⟨k0, hk0⟩ := cw_objC (T := T) hP hL0 hx hr0 hr1
  have hFc : ∀ z, va_A (CW T S L) H.size z → A z := fun z h => by
    rcases h with ⟨k, e, h⟩ | h
    · exact hD.2 k _ h
    · exact C.2.2.2.2.2.2.1 z (Nat.le_trans hS.1 h)
  refine va_calli (va_runV (As := As) (rest := st) ⟨C.1, C.2.1, C.2.2.1, C.2.2.2.1, C.2.2.2.2.1⟩ (hM H.size L hL0 hw) cw ⟨CB_blind, va_recv C.2.2.2.2.2.1 hP hcl hk0, fun U hU hW => ⟨rfl, by rw [hU], by rw [hU]; exact hP, va_K.moved hW.alike C.2.2.2.2.2.1, hD.weaken (fun _ _ _ _ => trivial), GE_call E hS hU hW hFc⟩⟩ rfl hn hl.1 rfl (lv_room hroom) hdg ⟨by omega, by omega⟩) hS (fun z _ h => hFc z h) hFc (fun v u t H1 locs1 ht hvm hw9 hB hz1 hk1 hS1 => ?_)
  obtain ⟨hp1, hx1, hw1, hL1⟩ := hw9
  obtain ⟨S1, L1⟩ := u
  obtain ⟨hP1, hK1, hD1⟩ := hB
  rw [ht] at hP1
  exact kk v S1 L1 hx1 hw1 hL1 hp1 H1 locs1 (cells + mc) (slots + ms) ls hP1 (hD1.weaken (fun _ z _ h => hFc z.1 h)) hS1 hl (by omega) (by omega)
theorem gc_callvV (C : GC p s m args meth c cc own Ts nL D A (zty T)) {y : MethodName} {bytes : ByteArray} {maxL n idx mc ms : Nat} {ret : Option FieldType} {wsY : List Cond} {rmY : Room} {host : String} {post : HS → Prop} (E : GE T A s) (hw : wt S) (hL0 : hL S L) {kr Nr : Nat} {Cn : String} {Tn : u_T} (hx : hK S x = kr) (hr0 : kr ≠ 0) (hr1 : kr < 20) (hcl : vwCl[clx kr]? = some (Cn, Tn, Nr)) (As : List Value) {stk : List Value} (hst : stk = As.reverse ++ .ref x :: st) (hM : CMv l y wsY rmY D T (.ref x :: As) S mc ms post) (cw : CallW R s args own Cn idx y bytes maxL ret wsY { rmY with cells := mc, slots := ms } mc ms n) (hn : As.length = n) (hroom : (st.map fun v => v.category).sum ≤ 8) (hKC : KC ≤ R.cells) (hKS : KS ≤ R.slots) (hkc : mc ≤ kc) (hks : ms ≤ ks) (hdg : decode cc pc = .ok (.invokevirtual idx, 3)) (kk : ∀ (S1 : HS) (L1 : List Nat), ext S S1 → wt S1 → hL S1 L1 → post S1 → GW p l e R s m args below meth c D A nL KC KS Q (CW T S1 L1) (kc - mc) (ks - ms) (pc + 3) lv st) : GW p l e R s m args below meth c D A nL KC KS Q (CW T S L) kc ks pc lv stk := by
  subst hst
  intro H locs cells slots ls hP hD hS hl hc hs
  obtain ⟨k0, hk0⟩ := cw_objC (T := T) hP hL0 hx hr0 hr1
  have hFc : ∀ z, va_A (CW T S L) H.size z → A z := fun z h => by
    rcases h with ⟨k, e, h⟩ | h
    · exact hD.2 k _ h
    · exact C.2.2.2.2.2.2.1 z (Nat.le_trans hS.1 h)
  refine va_callv (va_runV (As := As) (rest := st) ⟨C.1, C.2.1, C.2.2.1, C.2.2.2.1, C.2.2.2.2.1⟩ (hM H.size L hL0 hw) cw ⟨CB_blind, va_recv C.2.2.2.2.2.1 hP hcl hk0, fun U hU hW => ⟨rfl, by rw [hU], by rw [hU]; exact hP, va_K.moved hW.alike C.2.2.2.2.2.1, hD.weaken (fun _ _ _ _ => trivial), GE_call E hS hU hW hFc⟩⟩ rfl hn hl.1 rfl (lv_room hroom) hdg ⟨by omega, by omega⟩) hS (fun z _ h => hFc z h) hFc (fun u t H1 locs1 ht hvm hw9 hB hz1 hk1 hS1 => ?_)
  obtain ⟨hp1, hx1, hw1, hL1⟩ := hw9
  obtain ⟨S1, L1⟩ := u
  obtain ⟨hP1, hK1, hD1⟩ := hB
  rw [ht] at hP1
  exact kk S1 L1 hx1 hw1 hL1 hp1 H1 locs1 (cells + mc) (slots + ms) ls hP1 (hD1.weaken (fun _ z _ h => hFc z.1 h)) hS1 hl (by omega) (by omega)
theorem gc_callqV (C : GC p s m args meth c cc own Ts nL D A (zty T)) {y : MethodName} {bytes : ByteArray} {maxL n idx mc ms : Nat} {ret : Option FieldType} {wsY : List Cond} {rmY : Room} {host : String} {kd : Nat} {post : Option Nat → HS → Prop} (E : GE T A s) (hw : wt S) (hL0 : hL S L) {kr Nr : Nat} {Cn : String} {Tn : u_T} (hx : hK S x = kr) (hr0 : kr ≠ 0) (hr1 : kr < 20) (hcl : vwCl[clx kr]? = some (Cn, Tn, Nr)) (As : List Value) {stk : List Value} (hst : stk = As.reverse ++ .ref x :: st) (hM : CMq l y wsY rmY D T (.ref x :: As) S mc ms kd post) (cw : CallW R s args own Cn idx y bytes maxL ret wsY { rmY with cells := mc, slots := ms } mc ms n) (hn : As.length = n) (hroom : (st.map fun v => v.category).sum ≤ 8) (hKC : KC ≤ R.cells) (hKS : KS ≤ R.slots) (hkc : mc ≤ kc) (hks : ms ≤ ks) (hdg : decode cc pc = .ok (.invokevirtual idx, 3)) (kk : ∀ (v : Option Nat) (S1 : HS) (L1 : List Nat), ext S S1 → wt S1 → hL S1 L1 → (∀ b, v = some b → hK S1 b = kd) → post v S1 → GW p l e R s m args below meth c D A nL KC KS Q (CW T S1 L1) (kc - mc) (ks - ms) (pc + 3) lv (va_rf v :: st)) : GW p l e R s m args below meth c D A nL KC KS Q (CW T S L) kc ks pc lv stk := by
  subst hst
  intro H locs cells slots ls hP hD hS hl hc hs
  obtain ⟨k0, hk0⟩ := cw_objC (T := T) hP hL0 hx hr0 hr1
  have hFc : ∀ z, va_A (CW T S L) H.size z → A z := fun z h => by
    rcases h with ⟨k, e, h⟩ | h
    · exact hD.2 k _ h
    · exact C.2.2.2.2.2.2.1 z (Nat.le_trans hS.1 h)
  refine va_callq (va_runV (As := As) (rest := st) ⟨C.1, C.2.1, C.2.2.1, C.2.2.2.1, C.2.2.2.2.1⟩ (hM H.size L hL0 hw) cw ⟨CB_blind, va_recv C.2.2.2.2.2.1 hP hcl hk0, fun U hU hW => ⟨rfl, by rw [hU], by rw [hU]; exact hP, va_K.moved hW.alike C.2.2.2.2.2.1, hD.weaken (fun _ _ _ _ => trivial), GE_call E hS hU hW hFc⟩⟩ rfl hn hl.1 rfl (lv_room hroom) hdg ⟨by omega, by omega⟩) hS (fun z _ h => hFc z h) hFc (fun v u t H1 locs1 ht hvm hw9 hB hz1 hk1 hS1 => ?_)
  obtain ⟨⟨hp1, hp2⟩, hx1, hw1, hL1⟩ := hw9
  obtain ⟨S1, L1⟩ := u
  obtain ⟨hP1, hK1, hD1⟩ := hB
  rw [ht] at hP1
  exact kk v S1 L1 hx1 hw1 hL1 hp2 hp1 H1 locs1 (cells + mc) (slots + ms) ls hP1 (hD1.weaken (fun _ z _ h => hFc z.1 h)) hS1 hl (by omega) (by omega)
theorem gc_calliS (C : GC p s m args meth c cc own Ts nL D A (zty T)) {y : MethodName} {bytes : ByteArray} {maxL n idx mc ms : Nat} {ret : Option FieldType} {wsY : List Cond} {rmY : Room} {host : String} {post : Int32 → HS → Prop} (E : GE T A s) (hw : wt S) (hL0 : hL S L) (As : List Value) {stk : List Value} (hst : stk = As.reverse ++ st) (hM : CMi l y wsY rmY D T As S mc ms post) (cw : CallB R s args own idx y bytes maxL ret wsY { rmY with cells := mc, slots := ms } mc ms n ∧ (Cond.static y).before args s = true) (hn : As.length = n) (hroom : (st.map fun v => v.category).sum ≤ 8) (hKC : KC ≤ R.cells) (hKS : KS ≤ R.slots) (hkc : mc ≤ kc) (hks : ms ≤ ks) (hdg : decode cc pc = .ok (.invokestatic idx, 3)) (kk : ∀ (v : Int32) (S1 : HS) (L1 : List Nat), ext S S1 → wt S1 → hL S1 L1 → post v S1 → GW p l e R s m args below meth c D A nL KC KS Q (CW T S1 L1) (kc - mc) (ks - ms) (pc + 3) lv (.int v :: st)) : GW p l e R s m args below meth c D A nL KC KS Q (CW T S L) kc ks pc lv stk := by
  subst hst
  intro H locs cells slots ls hP hD hS hl hc hs
  have hFc : ∀ z, va_A (CW T S L) H.size z → A z := fun z h => by
    rcases h with ⟨k, e, h⟩ | h
    · exact hD.2 k _ h
    · exact C.2.2.2.2.2.2.1 z (Nat.le_trans hS.1 h)
  refine va_calli (va_runS (As := As) (rest := st) ⟨C.1, C.2.1, C.2.2.1, C.2.2.2.1, C.2.2.2.2.1⟩ (hM H.size L hL0 hw) cw ⟨CB_blind, fun U hU hW => ⟨rfl, by rw [hU], by rw [hU]; exact hP, va_K.moved hW.alike C.2.2.2.2.2.1, hD.weaken (fun _ _ _ _ => trivial), GE_call E hS hU hW hFc⟩⟩ rfl hn hl.1 rfl (lv_room hroom) hdg ⟨by omega, by omega⟩) hS (fun z _ h => hFc z h) hFc (fun v u t H1 locs1 ht hvm hw9 hB hz1 hk1 hS1 => ?_)
  obtain ⟨hp1, hx1, hw1, hL1⟩ := hw9
  obtain ⟨S1, L1⟩ := u
  obtain ⟨hP1, hK1, hD1⟩ := hB
  rw [ht] at hP1
  exact kk v S1 L1 hx1 hw1 hL1 hp1 H1 locs1 (cells + mc) (slots + ms) ls hP1 (hD1.weaken (fun _ z _ h => hFc z.1 h)) hS1 hl (by omega) (by omega)
theorem gc_calliSN (C : GC p s m args meth c cc own Ts nL D A (zty T)) {y : MethodName} {bytes : ByteArray} {maxL n idx mc ms : Nat} {ret : Option FieldType} {wsY : List Cond} {rmY : Room} {host : String} {post : Int32 → HS → Prop} (E : GE T A s) (hw : wt S) (hL0 : hL S L) (As : List Value) {stk : List Value} (hst : stk = As.reverse ++ st) (hM : CMi l y wsY rmY D T As S mc ms post) (cw : va_CN R s args own idx y host bytes maxL ret wsY { rmY with cells := mc, slots := ms } mc ms n ∧ (Cond.static y).before args s = true ∧ True) (hn : As.length = n) (hroom : (st.map fun v => v.category).sum ≤ 8) (hKC : KC ≤ R.cells) (hKS : KS ≤ R.slots) (hkc : mc ≤ kc) (hks : ms ≤ ks) (hdg : decode cc pc = .ok (.invokestatic idx, 3)) (kk : ∀ (v : Int32) (S1 : HS) (L1 : List Nat), ext S S1 → wt S1 → hL S1 L1 → post v S1 → GW p l e R s m args below meth c D A nL KC KS Q (CW T S1 L1) (kc - mc) (ks - ms) (pc + 3) lv (.int v :: st)) : GW p l e R s m args below meth c D A nL KC KS Q (CW T S L) kc ks pc lv stk := by
  subst hst
  intro H locs cells slots ls hP hD hS hl hc hs
  have hFc : ∀ z, va_A (CW T S L) H.size z → A z := fun z h => by
    rcases h with ⟨k, e, h⟩ | h
    · exact hD.2 k _ h
    · exact C.2.2.2.2.2.2.1 z (Nat.le_trans hS.1 h)
  refine va_calli (va_runSN (As := As) (rest := st) ⟨C.1, C.2.1, C.2.2.1, C.2.2.2.1, C.2.2.2.2.1⟩ (hM H.size L hL0 hw) cw ⟨CB_blind, fun U hU hW => ⟨rfl, by rw [hU], by rw [hU]; exact hP, va_K.moved hW.alike C.2.2.2.2.2.1, hD.weaken (fun _ _ _ _ => trivial), GE_call E hS hU hW hFc⟩⟩ rfl hn hl.1 rfl (lv_room hroom) hdg ⟨by omega, by omega⟩) hS (fun z _ h => hFc z h) hFc (fun v u t H1 locs1 ht hvm hw9 hB hz1 hk1 hS1 => ?_)
  obtain ⟨hp1, hx1, hw1, hL1⟩ := hw9
  obtain ⟨S1, L1⟩ := u
  obtain ⟨hP1, hK1, hD1⟩ := hB
  rw [ht] at hP1
  exact kk v S1 L1 hx1 hw1 hL1 hp1 H1 locs1 (cells + mc) (slots + ms) ls hP1 (hD1.weaken (fun _ z _ h => hFc z.1 h)) hS1 hl (by omega) (by omega)
theorem gc_callvI (C : GC p s m args meth c cc own Ts nL D A (zty T)) {y : MethodName} {bytes : ByteArray} {maxL n idx mc ms : Nat} {ret : Option FieldType} {wsY : List Cond} {rmY : Room} {host : String} {post : HS → Prop} (E : GE T A s) (hw : wt S) (hL0 : hL S L) (As : List Value) {stk : List Value} (hst : stk = As.reverse ++ .ref x :: st) (hM : CMv l y wsY rmY D T (.ref x :: As) S mc ms post) (cw : CallB R s args own idx y bytes maxL none wsY { rmY with cells := mc, slots := ms } mc ms n ∧ y.name = "<init>" ∧ (Cond.instanceMethod y).before args s = true) (hn : As.length = n) (hroom : (st.map fun v => v.category).sum ≤ 8) (hKC : KC ≤ R.cells) (hKS : KS ≤ R.slots) (hkc : mc ≤ kc) (hks : ms ≤ ks) (hdg : decode cc pc = .ok (.invokespecial idx, 3)) (kk : ∀ (S1 : HS) (L1 : List Nat), ext S S1 → wt S1 → hL S1 L1 → post S1 → GW p l e R s m args below meth c D A nL KC KS Q (CW T S1 L1) (kc - mc) (ks - ms) (pc + 3) lv st) : GW p l e R s m args below meth c D A nL KC KS Q (CW T S L) kc ks pc lv stk := by
  subst hst
  intro H locs cells slots ls hP hD hS hl hc hs
  have hFc : ∀ z, va_A (CW T S L) H.size z → A z := fun z h => by
    rcases h with ⟨k, e, h⟩ | h
    · exact hD.2 k _ h
    · exact C.2.2.2.2.2.2.1 z (Nat.le_trans hS.1 h)
  refine va_callv (va_runI (As := As) (rest := st) ⟨C.1, C.2.1, C.2.2.1, C.2.2.2.1, C.2.2.2.2.1⟩ (hM H.size L hL0 hw) cw ⟨CB_blind, fun U hU hW => ⟨rfl, by rw [hU], by rw [hU]; exact hP, va_K.moved hW.alike C.2.2.2.2.2.1, hD.weaken (fun _ _ _ _ => trivial), GE_call E hS hU hW hFc⟩⟩ rfl hn hl.1 rfl (lv_room hroom) hdg ⟨by omega, by omega⟩) hS (fun z _ h => hFc z h) hFc (fun u t H1 locs1 ht hvm hw9 hB hz1 hk1 hS1 => ?_)
  obtain ⟨hp1, hx1, hw1, hL1⟩ := hw9
  obtain ⟨S1, L1⟩ := u
  obtain ⟨hP1, hK1, hD1⟩ := hB
  rw [ht] at hP1
  exact kk S1 L1 hx1 hw1 hL1 hp1 H1 locs1 (cells + mc) (slots + ms) ls hP1 (hD1.weaken (fun _ z _ h => hFc z.1 h)) hS1 hl (by omega) (by omega)
theorem gc_callvIN (C : GC p s m args meth c cc own Ts nL D A (zty T)) {y : MethodName} {bytes : ByteArray} {maxL n idx mc ms : Nat} {ret : Option FieldType} {wsY : List Cond} {rmY : Room} {host : String} {post : HS → Prop} (E : GE T A s) (hw : wt S) (hL0 : hL S L) (As : List Value) {stk : List Value} (hst : stk = As.reverse ++ .ref x :: st) (hM : CMv l y wsY rmY D T (.ref x :: As) S mc ms post) (cw : va_CN R s args own idx y host bytes maxL none wsY { rmY with cells := mc, slots := ms } mc ms n ∧ y.name = "<init>" ∧ (Cond.instanceMethod y).before args s = true) (hn : As.length = n) (hroom : (st.map fun v => v.category).sum ≤ 8) (hKC : KC ≤ R.cells) (hKS : KS ≤ R.slots) (hkc : mc ≤ kc) (hks : ms ≤ ks) (hdg : decode cc pc = .ok (.invokespecial idx, 3)) (kk : ∀ (S1 : HS) (L1 : List Nat), ext S S1 → wt S1 → hL S1 L1 → post S1 → GW p l e R s m args below meth c D A nL KC KS Q (CW T S1 L1) (kc - mc) (ks - ms) (pc + 3) lv st) : GW p l e R s m args below meth c D A nL KC KS Q (CW T S L) kc ks pc lv stk := by
  subst hst
  intro H locs cells slots ls hP hD hS hl hc hs
  have hFc : ∀ z, va_A (CW T S L) H.size z → A z := fun z h => by
    rcases h with ⟨k, e, h⟩ | h
    · exact hD.2 k _ h
    · exact C.2.2.2.2.2.2.1 z (Nat.le_trans hS.1 h)
  refine va_callv (va_runIN (As := As) (rest := st) ⟨C.1, C.2.1, C.2.2.1, C.2.2.2.1, C.2.2.2.2.1⟩ (hM H.size L hL0 hw) cw ⟨CB_blind, fun U hU hW => ⟨rfl, by rw [hU], by rw [hU]; exact hP, va_K.moved hW.alike C.2.2.2.2.2.1, hD.weaken (fun _ _ _ _ => trivial), GE_call E hS hU hW hFc⟩⟩ rfl hn hl.1 rfl (lv_room hroom) hdg ⟨by omega, by omega⟩) hS (fun z _ h => hFc z h) hFc (fun u t H1 locs1 ht hvm hw9 hB hz1 hk1 hS1 => ?_)
  obtain ⟨hp1, hx1, hw1, hL1⟩ := hw9
  obtain ⟨S1, L1⟩ := u
  obtain ⟨hP1, hK1, hD1⟩ := hB
  rw [ht] at hP1
  exact kk S1 L1 hx1 hw1 hL1 hp1 H1 locs1 (cells + mc) (slots + ms) ls hP1 (hD1.weaken (fun _ z _ h => hFc z.1 h)) hS1 hl (by omega) (by omega)
theorem gx_calliV (C : GC p s m args meth c cc own Ts nL D A (zty T)) {y : MethodName} {bytes : ByteArray} {maxL n idx mc ms : Nat} {ret : Option FieldType} {wsY : List Cond} {rmY : Room} {host : String} {X X0 : String → HS → Prop} {Qc : Array Value → State → Outcome → State → Prop} {post : Int32 → HS → Prop} (E : GE T A s) (hw : wt S) (hL0 : hL S L) {kr Nr : Nat} {Cn : String} {Tn : u_T} (hx : hK S x = kr) (hr0 : kr ≠ 0) (hr1 : kr < 20) (hcl : vwCl[clx kr]? = some (Cn, Tn, Nr)) (As : List Value) {stk : List Value} (hst : stk = As.reverse ++ .ref x :: st) (hM : CXi l y wsY rmY D T (.ref x :: As) S mc ms post X) (cw : CallW R s args own Cn idx y bytes maxL ret wsY { rmY with cells := mc, slots := ms } mc ms n) (hn : As.length = n) (hroom : (st.map fun v => v.category).sum ≤ 8) (hKC : KC ≤ R.cells) (hKS : KS ≤ R.slots) (hkc : mc ≤ kc) (hks : ms ≤ ks) (hdg : decode cc pc = .ok (.invokevirtual idx, 3)) (hext : ext S0 S) (htab : ∀ z ∈ c.exceptionTable.toList, False) (kx : ∀ (E9 : String) (S1 : HS), ext S S1 → X E9 S1 → X0 E9 S1) (kk : ∀ (v : Int32) (S1 : HS) (L1 : List Nat), ext S S1 → wt S1 → hL S1 L1 → post v S1 → GW p l e R s m args below meth c D A nL KC KS (vx_MQ below Qc (CXX D T A S0 X0) args s KC KS A) (CW T S1 L1) (kc - mc) (ks - ms) (pc + 3) lv (.int v :: st)) : GW p l e R s m args below meth c D A nL KC KS (vx_MQ below Qc (CXX D T A S0 X0) args s KC KS A) (CW T S L) kc ks pc lv stk := by
  subst hst
  intro H locs cells slots ls hP hD hS hl hc hs
  obtain ⟨k0, hk0⟩ := cw_objC (T := T) hP hL0 hx hr0 hr1
  have hFc : ∀ z, va_A (CW T S L) H.size z → A z := fun z h => by
    rcases h with ⟨k, e, h⟩ | h
    · exact hD.2 k _ h
    · exact C.2.2.2.2.2.2.1 z (Nat.le_trans hS.1 h)
  refine vx_calli (vx_runV (As := As) (rest := st) ⟨C.1, C.2.1, C.2.2.1, C.2.2.2.1, C.2.2.2.2.1⟩ (hM H.size L hL0 hw) cw ⟨CB_blind, va_recv C.2.2.2.2.2.1 hP hcl hk0, fun U hU hW => ⟨rfl, by rw [hU], by rw [hU]; exact hP, va_K.moved hW.alike C.2.2.2.2.2.1, hD.weaken (fun _ _ _ _ => trivial), GE_call E hS hU hW hFc⟩⟩ rfl hn hl.1 rfl (lv_room hroom) hdg ⟨by omega, by omega⟩) hS (fun z _ h => hFc z h) hFc (fun z _ h => hFc z h) (fun E9 ce q9 u t H1 locs1 ht hvm hw9 hB hz1 hk1 hS1 hce hcv hcl9 => ?_) (fun v u t H1 locs1 ht hvm hw9 hB hz1 hk1 hS1 => ?_)
  · obtain ⟨S1, L1⟩ := u
    obtain ⟨hx1, hw1, hL1⟩ := hw9
    obtain ⟨hX, hP1, hK1, hD1⟩ := hB
    rw [ht] at hP1
    refine vx_widen (k := KC) (n := KS) (by omega) (by omega) ?_
    exact vx_out (fun z hz => (htab z hz).elim) C.2.2.2.2.2.2.2 hce hcv hcl9 (fun t9 ht9 hv9 => ⟨(S1, L1), ⟨ext_tr hext hx1, hw1, hL1⟩, ⟨kx E9 S1 hx1 hX, by rw [ht9]; exact hP1, va_K.moved hv9 C.2.2.2.2.2.1, hD1.weaken (fun _ z _ h => hFc z.1 h)⟩, hS1.F ht9⟩) hS1.2.2 (Nat.le_refl _) (Nat.le_refl _)
  · obtain ⟨hp1, hx1, hw1, hL1⟩ := hw9
    obtain ⟨S1, L1⟩ := u
    obtain ⟨hP1, hK1, hD1⟩ := hB
    rw [ht] at hP1
    exact kk v S1 L1 hx1 hw1 hL1 hp1 H1 locs1 (cells + mc) (slots + ms) ls hP1 (hD1.weaken (fun _ z _ h => hFc z.1 h)) hS1 hl (by omega) (by omega)
theorem gx_callvV (C : GC p s m args meth c cc own Ts nL D A (zty T)) {y : MethodName} {bytes : ByteArray} {maxL n idx mc ms : Nat} {ret : Option FieldType} {wsY : List Cond} {rmY : Room} {host : String} {X X0 : String → HS → Prop} {Qc : Array Value → State → Outcome → State → Prop} {post : HS → Prop} (E : GE T A s) (hw : wt S) (hL0 : hL S L) {kr Nr : Nat} {Cn : String} {Tn : u_T} (hx : hK S x = kr) (hr0 : kr ≠ 0) (hr1 : kr < 20) (hcl : vwCl[clx kr]? = some (Cn, Tn, Nr)) (As : List Value) {stk : List Value} (hst : stk = As.reverse ++ .ref x :: st) (hM : CXv l y wsY rmY D T (.ref x :: As) S mc ms post X) (cw : CallW R s args own Cn idx y bytes maxL ret wsY { rmY with cells := mc, slots := ms } mc ms n) (hn : As.length = n) (hroom : (st.map fun v => v.category).sum ≤ 8) (hKC : KC ≤ R.cells) (hKS : KS ≤ R.slots) (hkc : mc ≤ kc) (hks : ms ≤ ks) (hdg : decode cc pc = .ok (.invokevirtual idx, 3)) (hext : ext S0 S) (htab : ∀ z ∈ c.exceptionTable.toList, False) (kx : ∀ (E9 : String) (S1 : HS), ext S S1 → X E9 S1 → X0 E9 S1) (kk : ∀ (S1 : HS) (L1 : List Nat), ext S S1 → wt S1 → hL S1 L1 → post S1 → GW p l e R s m args below meth c D A nL KC KS (vx_MQ below Qc (CXX D T A S0 X0) args s KC KS A) (CW T S1 L1) (kc - mc) (ks - ms) (pc + 3) lv st) : GW p l e R s m args below meth c D A nL KC KS (vx_MQ below Qc (CXX D T A S0 X0) args s KC KS A) (CW T S L) kc ks pc lv stk := by
  subst hst
  intro H locs cells slots ls hP hD hS hl hc hs
  obtain ⟨k0, hk0⟩ := cw_objC (T := T) hP hL0 hx hr0 hr1
  have hFc : ∀ z, va_A (CW T S L) H.size z → A z := fun z h => by
    rcases h with ⟨k, e, h⟩ | h
    · exact hD.2 k _ h
    · exact C.2.2.2.2.2.2.1 z (Nat.le_trans hS.1 h)
  refine vx_callv (vx_runV (As := As) (rest := st) ⟨C.1, C.2.1, C.2.2.1, C.2.2.2.1, C.2.2.2.2.1⟩ (hM H.size L hL0 hw) cw ⟨CB_blind, va_recv C.2.2.2.2.2.1 hP hcl hk0, fun U hU hW => ⟨rfl, by rw [hU], by rw [hU]; exact hP, va_K.moved hW.alike C.2.2.2.2.2.1, hD.weaken (fun _ _ _ _ => trivial), GE_call E hS hU hW hFc⟩⟩ rfl hn hl.1 rfl (lv_room hroom) hdg ⟨by omega, by omega⟩) hS (fun z _ h => hFc z h) hFc (fun z _ h => hFc z h) (fun E9 ce q9 u t H1 locs1 ht hvm hw9 hB hz1 hk1 hS1 hce hcv hcl9 => ?_) (fun u t H1 locs1 ht hvm hw9 hB hz1 hk1 hS1 => ?_)
  · obtain ⟨S1, L1⟩ := u
    obtain ⟨hx1, hw1, hL1⟩ := hw9
    obtain ⟨hX, hP1, hK1, hD1⟩ := hB
    rw [ht] at hP1
    refine vx_widen (k := KC) (n := KS) (by omega) (by omega) ?_
    exact vx_out (fun z hz => (htab z hz).elim) C.2.2.2.2.2.2.2 hce hcv hcl9 (fun t9 ht9 hv9 => ⟨(S1, L1), ⟨ext_tr hext hx1, hw1, hL1⟩, ⟨kx E9 S1 hx1 hX, by rw [ht9]; exact hP1, va_K.moved hv9 C.2.2.2.2.2.1, hD1.weaken (fun _ z _ h => hFc z.1 h)⟩, hS1.F ht9⟩) hS1.2.2 (Nat.le_refl _) (Nat.le_refl _)
  · obtain ⟨hp1, hx1, hw1, hL1⟩ := hw9
    obtain ⟨S1, L1⟩ := u
    obtain ⟨hP1, hK1, hD1⟩ := hB
    rw [ht] at hP1
    exact kk S1 L1 hx1 hw1 hL1 hp1 H1 locs1 (cells + mc) (slots + ms) ls hP1 (hD1.weaken (fun _ z _ h => hFc z.1 h)) hS1 hl (by omega) (by omega)
theorem gx_callqV (C : GC p s m args meth c cc own Ts nL D A (zty T)) {y : MethodName} {bytes : ByteArray} {maxL n idx mc ms : Nat} {ret : Option FieldType} {wsY : List Cond} {rmY : Room} {host : String} {kd : Nat} {X X0 : String → HS → Prop} {Qc : Array Value → State → Outcome → State → Prop} {post : Option Nat → HS → Prop} (E : GE T A s) (hw : wt S) (hL0 : hL S L) {kr Nr : Nat} {Cn : String} {Tn : u_T} (hx : hK S x = kr) (hr0 : kr ≠ 0) (hr1 : kr < 20) (hcl : vwCl[clx kr]? = some (Cn, Tn, Nr)) (As : List Value) {stk : List Value} (hst : stk = As.reverse ++ .ref x :: st) (hM : CXq l y wsY rmY D T (.ref x :: As) S mc ms kd post X) (cw : CallW R s args own Cn idx y bytes maxL ret wsY { rmY with cells := mc, slots := ms } mc ms n) (hn : As.length = n) (hroom : (st.map fun v => v.category).sum ≤ 8) (hKC : KC ≤ R.cells) (hKS : KS ≤ R.slots) (hkc : mc ≤ kc) (hks : ms ≤ ks) (hdg : decode cc pc = .ok (.invokevirtual idx, 3)) (hext : ext S0 S) (htab : ∀ z ∈ c.exceptionTable.toList, False) (kx : ∀ (E9 : String) (S1 : HS), ext S S1 → X E9 S1 → X0 E9 S1) (kk : ∀ (v : Option Nat) (S1 : HS) (L1 : List Nat), ext S S1 → wt S1 → hL S1 L1 → (∀ b, v = some b → hK S1 b = kd) → post v S1 → GW p l e R s m args below meth c D A nL KC KS (vx_MQ below Qc (CXX D T A S0 X0) args s KC KS A) (CW T S1 L1) (kc - mc) (ks - ms) (pc + 3) lv (va_rf v :: st)) : GW p l e R s m args below meth c D A nL KC KS (vx_MQ below Qc (CXX D T A S0 X0) args s KC KS A) (CW T S L) kc ks pc lv stk := by
  subst hst
  intro H locs cells slots ls hP hD hS hl hc hs
  obtain ⟨k0, hk0⟩ := cw_objC (T := T) hP hL0 hx hr0 hr1
  have hFc : ∀ z, va_A (CW T S L) H.size z → A z := fun z h => by
    rcases h with ⟨k, e, h⟩ | h
    · exact hD.2 k _ h
    · exact C.2.2.2.2.2.2.1 z (Nat.le_trans hS.1 h)
  refine gx_callq (vx_runV (As := As) (rest := st) ⟨C.1, C.2.1, C.2.2.1, C.2.2.2.1, C.2.2.2.2.1⟩ (hM H.size L hL0 hw) cw ⟨CB_blind, va_recv C.2.2.2.2.2.1 hP hcl hk0, fun U hU hW => ⟨rfl, by rw [hU], by rw [hU]; exact hP, va_K.moved hW.alike C.2.2.2.2.2.1, hD.weaken (fun _ _ _ _ => trivial), GE_call E hS hU hW hFc⟩⟩ rfl hn hl.1 rfl (lv_room hroom) hdg ⟨by omega, by omega⟩) hS (fun z _ h => hFc z h) hFc (fun z _ h => hFc z h) (fun E9 ce q9 u t H1 locs1 ht hvm hw9 hB hz1 hk1 hS1 hce hcv hcl9 => ?_) (fun v u t H1 locs1 ht hvm hw9 hB hz1 hk1 hS1 => ?_)
  · obtain ⟨S1, L1⟩ := u
    obtain ⟨hx1, hw1, hL1⟩ := hw9
    obtain ⟨hX, hP1, hK1, hD1⟩ := hB
    rw [ht] at hP1
    refine vx_widen (k := KC) (n := KS) (by omega) (by omega) ?_
    exact vx_out (fun z hz => (htab z hz).elim) C.2.2.2.2.2.2.2 hce hcv hcl9 (fun t9 ht9 hv9 => ⟨(S1, L1), ⟨ext_tr hext hx1, hw1, hL1⟩, ⟨kx E9 S1 hx1 hX, by rw [ht9]; exact hP1, va_K.moved hv9 C.2.2.2.2.2.1, hD1.weaken (fun _ z _ h => hFc z.1 h)⟩, hS1.F ht9⟩) hS1.2.2 (Nat.le_refl _) (Nat.le_refl _)
  · obtain ⟨⟨hp1, hp2⟩, hx1, hw1, hL1⟩ := hw9
    obtain ⟨S1, L1⟩ := u
    obtain ⟨hP1, hK1, hD1⟩ := hB
    rw [ht] at hP1
    exact kk v S1 L1 hx1 hw1 hL1 hp2 hp1 H1 locs1 (cells + mc) (slots + ms) ls hP1 (hD1.weaken (fun _ z _ h => hFc z.1 h)) hS1 hl (by omega) (by omega)
theorem gc_iret (C : GC p s m args meth c cc own Ts nL D A (zty T)) {post : Int32 → HS → Prop} {v : Int32} (hw : wt S) (hL0 : hL S L) (hext : ext S0 S) (hr : meth.sig.returnType = (some .int)) (hdg : decode cc pc = .ok (.ireturn, 1)) (hp : post v S) : GW p l e R s m args below meth c D A nL KC KS (MQ below (va_Qi (fun v (u : HS × List Nat) => post v u.1 ∧ CO S0 u) (CE D T A) A) args s KC KS A) (CW T S L) kc ks pc lv [.int v] := fun H locs cells slots ls hP hD hS hl hc hs => W.widen (k := KC) (n := KS) (by omega) (by omega) (W.iret (v := v) C.1 C.2.1 hr (fun t ht hW => ⟨⟨v, (S, L), rfl, ⟨hp, hext, hw, hL0⟩, by rw [ht]; exact hP, va_K.moved hW.alike C.2.2.2.2.2.1, hD⟩, hS.F ht⟩) hS.2.2 hdg C.2.2.2.2.2.2.2)
theorem gc_zret (C : GC p s m args meth c cc own Ts nL D A (zty T)) {post : Int32 → HS → Prop} {v : Int32} (hz : vz v) (hw : wt S) (hL0 : hL S L) (hext : ext S0 S) (hr : meth.sig.returnType = (some .boolean)) (hdg : decode cc pc = .ok (.ireturn, 1)) (hp : post v S) : GW p l e R s m args below meth c D A nL KC KS (MQ below (va_Qi (fun v (u : HS × List Nat) => post v u.1 ∧ CO S0 u) (CE D T A) A) args s KC KS A) (CW T S L) kc ks pc lv [.int v] := fun H locs cells slots ls hP hD hS hl hc hs => W.widen (k := KC) (n := KS) (by omega) (by omega) (W.zret (v := v) C.1 C.2.1 hr (vz_n hz) (fun t ht hW => ⟨⟨v, (S, L), rfl, ⟨hp, hext, hw, hL0⟩, by rw [ht]; exact hP, va_K.moved hW.alike C.2.2.2.2.2.1, hD⟩, hS.F ht⟩) hS.2.2 hdg C.2.2.2.2.2.2.2)
theorem gc_cret (C : GC p s m args meth c cc own Ts nL D A (zty T)) {post : Int32 → HS → Prop} {v : Int32} (hz : vc v) (hw : wt S) (hL0 : hL S L) (hext : ext S0 S) (hr : meth.sig.returnType = (some .char)) (hdg : decode cc pc = .ok (.ireturn, 1)) (hp : post v S) : GW p l e R s m args below meth c D A nL KC KS (MQ below (va_Qi (fun v (u : HS × List Nat) => post v u.1 ∧ CO S0 u) (CE D T A) A) args s KC KS A) (CW T S L) kc ks pc lv [.int v] := fun H locs cells slots ls hP hD hS hl hc hs => W.widen (k := KC) (n := KS) (by omega) (by omega) (W.zret (v := v) C.1 C.2.1 hr hz.1 (fun t ht hW => ⟨⟨v, (S, L), rfl, ⟨hp, hext, hw, hL0⟩, by rw [ht]; exact hP, va_K.moved hW.alike C.2.2.2.2.2.1, hD⟩, hS.F ht⟩) hS.2.2 hdg C.2.2.2.2.2.2.2)
theorem gc_vret (C : GC p s m args meth c cc own Ts nL D A (zty T)) {post : HS → Prop} (hw : wt S) (hL0 : hL S L) (hext : ext S0 S) (hr : meth.sig.returnType = none) (hdg : decode cc pc = .ok (.return_, 1)) (hp : post  S) : GW p l e R s m args below meth c D A nL KC KS (MQ below (va_Qv (fun (u : HS × List Nat) => post u.1 ∧ CO S0 u) (CE D T A) A) args s KC KS A) (CW T S L) kc ks pc lv [] := fun H locs cells slots ls hP hD hS hl hc hs => W.widen (k := KC) (n := KS) (by omega) (by omega) (W.vret C.1 C.2.1 hr (fun t ht hW => ⟨⟨(S, L), rfl, ⟨hp, hext, hw, hL0⟩, by rw [ht]; exact hP, va_K.moved hW.alike C.2.2.2.2.2.1, hD⟩, hS.F ht⟩) hS.2.2 hdg C.2.2.2.2.2.2.2)
theorem gc_aret (C : GC p s m args meth c cc own Ts nL D A (zty T)) {post : Option Nat → HS → Prop} {v : Option Nat} {kd : Nat} {rt : FieldType} (hrt : (∃ n, rt = .object n) ∨ ∃ t, rt = .array t) (hkd : ∀ b, v = some b → hK S b = kd) (hw : wt S) (hL0 : hL S L) (hext : ext S0 S) (hr : meth.sig.returnType = (some rt)) (hdg : decode cc pc = .ok (.areturn, 1)) (hp : post v S) : GW p l e R s m args below meth c D A nL KC KS (MQ below (va_Qq (fun v (u : HS × List Nat) => (post v u.1 ∧ ∀ b, v = some b → hK u.1 b = kd) ∧ CO S0 u) (CE D T A) A) args s KC KS A) (CW T S L) kc ks pc lv [va_rf v] := fun H locs cells slots ls hP hD hS hl hc hs => W.widen (k := KC) (n := KS) (by omega) (by omega) (W.aret (v := va_rf v) C.1 C.2.1 hr hrt (by cases v with | none => exact Or.inl rfl | some b => exact Or.inr ⟨b, rfl⟩) (fun t ht hW => ⟨⟨v, (S, L), rfl, ⟨⟨hp, hkd⟩, hext, hw, hL0⟩, by rw [ht]; exact hP, va_K.moved hW.alike C.2.2.2.2.2.1, hD⟩, hS.F ht⟩) hS.2.2 hdg C.2.2.2.2.2.2.2)
theorem gx_iret (C : GC p s m args meth c cc own Ts nL D A (zty T)) {X0 : String → HS → Prop} {post : Int32 → HS → Prop} {v : Int32} (hw : wt S) (hL0 : hL S L) (hext : ext S0 S) (hr : meth.sig.returnType = (some .int)) (hdg : decode cc pc = .ok (.ireturn, 1)) (hp : post v S) : GW p l e R s m args below meth c D A nL KC KS (vx_MQ below (va_Qi (fun v (u : HS × List Nat) => post v u.1 ∧ CO S0 u) (CE D T A) A) (CXX D T A S0 X0) args s KC KS A) (CW T S L) kc ks pc lv [.int v] := fun H locs cells slots ls hP hD hS hl hc hs => W.widen (k := KC) (n := KS) (by omega) (by omega) (vx_ret (W.iret (v := v) C.1 C.2.1 hr (fun t ht hW => ⟨⟨v, (S, L), rfl, ⟨hp, hext, hw, hL0⟩, by rw [ht]; exact hP, va_K.moved hW.alike C.2.2.2.2.2.1, hD⟩, hS.F ht⟩) hS.2.2 hdg C.2.2.2.2.2.2.2))
theorem gx_zret (C : GC p s m args meth c cc own Ts nL D A (zty T)) {X0 : String → HS → Prop} {post : Int32 → HS → Prop} {v : Int32} (hz : vz v) (hw : wt S) (hL0 : hL S L) (hext : ext S0 S) (hr : meth.sig.returnType = (some .boolean)) (hdg : decode cc pc = .ok (.ireturn, 1)) (hp : post v S) : GW p l e R s m args below meth c D A nL KC KS (vx_MQ below (va_Qi (fun v (u : HS × List Nat) => post v u.1 ∧ CO S0 u) (CE D T A) A) (CXX D T A S0 X0) args s KC KS A) (CW T S L) kc ks pc lv [.int v] := fun H locs cells slots ls hP hD hS hl hc hs => W.widen (k := KC) (n := KS) (by omega) (by omega) (vx_ret (W.zret (v := v) C.1 C.2.1 hr (vz_n hz) (fun t ht hW => ⟨⟨v, (S, L), rfl, ⟨hp, hext, hw, hL0⟩, by rw [ht]; exact hP, va_K.moved hW.alike C.2.2.2.2.2.1, hD⟩, hS.F ht⟩) hS.2.2 hdg C.2.2.2.2.2.2.2))
theorem gx_cret (C : GC p s m args meth c cc own Ts nL D A (zty T)) {X0 : String → HS → Prop} {post : Int32 → HS → Prop} {v : Int32} (hz : vc v) (hw : wt S) (hL0 : hL S L) (hext : ext S0 S) (hr : meth.sig.returnType = (some .char)) (hdg : decode cc pc = .ok (.ireturn, 1)) (hp : post v S) : GW p l e R s m args below meth c D A nL KC KS (vx_MQ below (va_Qi (fun v (u : HS × List Nat) => post v u.1 ∧ CO S0 u) (CE D T A) A) (CXX D T A S0 X0) args s KC KS A) (CW T S L) kc ks pc lv [.int v] := fun H locs cells slots ls hP hD hS hl hc hs => W.widen (k := KC) (n := KS) (by omega) (by omega) (vx_ret (W.zret (v := v) C.1 C.2.1 hr hz.1 (fun t ht hW => ⟨⟨v, (S, L), rfl, ⟨hp, hext, hw, hL0⟩, by rw [ht]; exact hP, va_K.moved hW.alike C.2.2.2.2.2.1, hD⟩, hS.F ht⟩) hS.2.2 hdg C.2.2.2.2.2.2.2))
theorem gx_vret (C : GC p s m args meth c cc own Ts nL D A (zty T)) {X0 : String → HS → Prop} {post : HS → Prop} (hw : wt S) (hL0 : hL S L) (hext : ext S0 S) (hr : meth.sig.returnType = none) (hdg : decode cc pc = .ok (.return_, 1)) (hp : post  S) : GW p l e R s m args below meth c D A nL KC KS (vx_MQ below (va_Qv (fun (u : HS × List Nat) => post u.1 ∧ CO S0 u) (CE D T A) A) (CXX D T A S0 X0) args s KC KS A) (CW T S L) kc ks pc lv [] := fun H locs cells slots ls hP hD hS hl hc hs => W.widen (k := KC) (n := KS) (by omega) (by omega) (vx_ret (W.vret C.1 C.2.1 hr (fun t ht hW => ⟨⟨(S, L), rfl, ⟨hp, hext, hw, hL0⟩, by rw [ht]; exact hP, va_K.moved hW.alike C.2.2.2.2.2.1, hD⟩, hS.F ht⟩) hS.2.2 hdg C.2.2.2.2.2.2.2))
theorem gx_aret (C : GC p s m args meth c cc own Ts nL D A (zty T)) {X0 : String → HS → Prop} {post : Option Nat → HS → Prop} {v : Option Nat} {kd : Nat} {rt : FieldType} (hrt : (∃ n, rt = .object n) ∨ ∃ t, rt = .array t) (hkd : ∀ b, v = some b → hK S b = kd) (hw : wt S) (hL0 : hL S L) (hext : ext S0 S) (hr : meth.sig.returnType = (some rt)) (hdg : decode cc pc = .ok (.areturn, 1)) (hp : post v S) : GW p l e R s m args below meth c D A nL KC KS (vx_MQ below (va_Qq (fun v (u : HS × List Nat) => (post v u.1 ∧ ∀ b, v = some b → hK u.1 b = kd) ∧ CO S0 u) (CE D T A) A) (CXX D T A S0 X0) args s KC KS A) (CW T S L) kc ks pc lv [va_rf v] := fun H locs cells slots ls hP hD hS hl hc hs => W.widen (k := KC) (n := KS) (by omega) (by omega) (vx_ret (W.aret (v := va_rf v) C.1 C.2.1 hr hrt (by cases v with | none => exact Or.inl rfl | some b => exact Or.inr ⟨b, rfl⟩) (fun t ht hW => ⟨⟨v, (S, L), rfl, ⟨⟨hp, hkd⟩, hext, hw, hL0⟩, by rw [ht]; exact hP, va_K.moved hW.alike C.2.2.2.2.2.1, hD⟩, hS.F ht⟩) hS.2.2 hdg C.2.2.2.2.2.2.2))
theorem gx_throw (C : GC p s m args meth c cc own Ts nL D A (zty T)) {X0 : String → HS → Prop} {Qc : Array Value → State → Outcome → State → Prop} (E : GE T A s) (hst : l.stackTraces = false) (hw : wt S) (hL0 : hL S L) (hext : ext S0 S) (hKC : KC ≤ R.cells) (hKS : KS ≤ R.slots) {cls : String} {names : List String} {ik ic : Nat} (hcls : Bundle.fit cls = true) (hnames : ∀ n ∈ names, Bundle.fit n = true) (hk : (Cond.classLink own ik cls).before args s = true) (hini : (Cond.initialized cls).before args s = true) (hat : ∀ w ∈ vx_at0 own ic cls names, w.before args s = true) (hgood : ∀ w ∈ Cond.classLink own ik cls :: Cond.initialized cls :: vx_at0 own ic cls names, vx_ot w = true) (d0 : decode cc pc = .ok (.new ik, 3)) (d3 : decode cc (pc + 3) = .ok (.dup, 1)) (d4 : decode cc (pc + 4) = .ok (.invokespecial ic, 3)) (d7 : decode cc (pc + 7) = .ok (.athrow, 1)) (htab : ∀ z ∈ c.exceptionTable.toList, False) (hRframes : names.length + 3 < R.frames) (hRlocals : (st.map fun v => v.category).sum + (13 * (names.length + 1) + 42) ≤ R.locals) (hkc : 1 ≤ kc) (hks : 6 ≤ ks) (hp : X0 cls S) : GW p l e R s m args below meth c D A nL KC KS (vx_MQ below Qc (CXX D T A S0 X0) args s KC KS A) (CW T S L) kc ks pc lv st := by
  intro H locs cells slots ls hP hD hS hl hc hs
  exact vx_throw0 C.1 C.2.1 hst C.2.2.2.1 hcls hnames hk hini hat hgood E.2.2.2.2.1 E.2.2.2.2.2.1 hS (hl.1.trans C.2.2.1.symm) d0 d3 d4 d7 (fun z hz => (htab z hz).elim) hRframes hRlocals (by omega) (by omega) C.2.2.2.2.2.2.2 (fun t hv hz1 hk1 => ⟨(S, L), ⟨hext, hw, hL0⟩, ⟨hp, hP.kept (fun k q hk9 => hk1 q.1 ((hP k q hk9).lt)), va_K.moved hv C.2.2.2.2.2.1, hD⟩, ⟨Nat.le_trans hS.1 hz1, fun q h1 h2 => by rw [hk1 q (Nat.lt_of_lt_of_le h1 hS.1)]; exact hS.2.1 q h1 h2⟩⟩) hS.2.2 (by omega) (by omega)
theorem gc_meti {y : MethodName} {ws' : List Cond} {rmY : Room} {maxL mc ms : Nat} {ret : Option FieldType} {As : List Value} {post : Int32 → HS → Prop} (hy : plainName y.cls = true) (hcls : y.cls = own) (hwy : Ts = Cond.code y cc maxL ret :: ws') (hlen : (lg_sl As).length ≤ maxL) (body : ∀ (p : Program) (e : Env) (s : State) (m : MethodId) (args : Array Value) (below : List Frame) (meth : Method) (c : Code) (A : Nat → Prop) (L : List Nat), GC p s m args meth c cc own Ts maxL D A (zty T) → GE T A s → meth.name = y.name → meth.sig.returnType = ret → wt S → hL S L → GW p l e { rmY with cells := mc, slots := ms } s m args below meth c D A maxL mc ms (MQ below (va_Qi (fun v (u : HS × List Nat) => post v u.1 ∧ CO S u) (CE D T A) A) args s mc ms A) (CW T S L) mc ms 0 (lv_args 0 As) []) : CMi l y Ts rmY D T As S mc ms post := by
  intro sz L hL0 hwt
  refine Met.ofW (cc := cc) (maxL := maxL) (ret := ret) hy hwy ?_
  intro p e s m args below meth c s₁ B hml hv
  obtain ⟨rfl, hsz, hP, hK, hD0, hG⟩ := hv
  have hts := atoms_spec (ws := Ts) B.pre
  have hown : s.vm.findClass own = some m.cls := by rw [← hcls]; exact findClass_of_methodNamed B.named
  subst hsz
  have hD := hD0.self (sz := s.heap.size)
  have hA : ∀ x : Nat, s.heap.size ≤ x → va_A (CW T S L) s.heap.size x := fun x h => Or.inr h
  have hl := lv_entry As (n := maxL) hlen
  rw [lg_entry_eq]
  generalize (lg_sl As ++ List.replicate (maxL - (lg_sl As).length) Slot.unset).toArray = ls at hl ⊢
  exact body p e s m As.toArray below meth c _ L ⟨B.exec, B.bytes, hml, hown, hts, hK, hA, B.notSynchronized⟩ hG (name_of_methodNamed B.named B.method).1 B.returns hwt hL0 s.heap [] 0 0 ls hP hD va_S.rf hl (by omega) (by omega)
theorem gx_meti {y : MethodName} {ws' : List Cond} {rmY : Room} {maxL mc ms : Nat} {ret : Option FieldType} {As : List Value} {X0 : String → HS → Prop} {post : Int32 → HS → Prop} (hy : plainName y.cls = true) (hcls : y.cls = own) (hwy : Ts = Cond.code y cc maxL ret :: ws') (hlen : (lg_sl As).length ≤ maxL) (body : ∀ (p : Program) (e : Env) (s : State) (m : MethodId) (args : Array Value) (below : List Frame) (meth : Method) (c : Code) (A : Nat → Prop) (L : List Nat), GC p s m args meth c cc own Ts maxL D A (zty T) → GE T A s → meth.name = y.name → meth.sig.returnType = ret → (∀ z ∈ c.exceptionTable.toList, False) → wt S → hL S L → GW p l e { rmY with cells := mc, slots := ms } s m args below meth c D A maxL mc ms (vx_MQ below (va_Qi (fun v (u : HS × List Nat) => post v u.1 ∧ CO S u) (CE D T A) A) (CXX D T A S X0) args s mc ms A) (CW T S L) mc ms 0 (lv_args 0 As) []) : CXi l y Ts rmY D T As S mc ms post X0 := by
  intro sz L hL0 hwt
  refine vx_ofW (cc := cc) (maxL := maxL) (ret := ret) hy hwy ?_
  intro p e s m args below meth c s₁ B hml htab hv
  obtain ⟨rfl, hsz, hP, hK, hD0, hG⟩ := hv
  have hts := atoms_spec (ws := Ts) B.pre
  have hown : s.vm.findClass own = some m.cls := by rw [← hcls]; exact findClass_of_methodNamed B.named
  subst hsz
  have hD := hD0.self (sz := s.heap.size)
  have hA : ∀ x : Nat, s.heap.size ≤ x → va_A (CW T S L) s.heap.size x := fun x h => Or.inr h
  have hl := lv_entry As (n := maxL) hlen
  rw [lg_entry_eq]
  generalize (lg_sl As ++ List.replicate (maxL - (lg_sl As).length) Slot.unset).toArray = ls at hl ⊢
  exact body p e s m As.toArray below meth c _ L ⟨B.exec, B.bytes, hml, hown, hts, hK, hA, B.notSynchronized⟩ hG (name_of_methodNamed B.named B.method).1 B.returns htab hwt hL0 s.heap [] 0 0 ls hP hD va_S.rf hl (by omega) (by omega)
theorem gc_metv {y : MethodName} {ws' : List Cond} {rmY : Room} {maxL mc ms : Nat} {ret : Option FieldType} {As : List Value} {post : HS → Prop} (hy : plainName y.cls = true) (hcls : y.cls = own) (hwy : Ts = Cond.code y cc maxL ret :: ws') (hlen : (lg_sl As).length ≤ maxL) (body : ∀ (p : Program) (e : Env) (s : State) (m : MethodId) (args : Array Value) (below : List Frame) (meth : Method) (c : Code) (A : Nat → Prop) (L : List Nat), GC p s m args meth c cc own Ts maxL D A (zty T) → GE T A s → meth.name = y.name → meth.sig.returnType = ret → wt S → hL S L → GW p l e { rmY with cells := mc, slots := ms } s m args below meth c D A maxL mc ms (MQ below (va_Qv (fun (u : HS × List Nat) => post u.1 ∧ CO S u) (CE D T A) A) args s mc ms A) (CW T S L) mc ms 0 (lv_args 0 As) []) : CMv l y Ts rmY D T As S mc ms post := by
  intro sz L hL0 hwt
  refine Met.ofW (cc := cc) (maxL := maxL) (ret := ret) hy hwy ?_
  intro p e s m args below meth c s₁ B hml hv
  obtain ⟨rfl, hsz, hP, hK, hD0, hG⟩ := hv
  have hts := atoms_spec (ws := Ts) B.pre
  have hown : s.vm.findClass own = some m.cls := by rw [← hcls]; exact findClass_of_methodNamed B.named
  subst hsz
  have hD := hD0.self (sz := s.heap.size)
  have hA : ∀ x : Nat, s.heap.size ≤ x → va_A (CW T S L) s.heap.size x := fun x h => Or.inr h
  have hl := lv_entry As (n := maxL) hlen
  rw [lg_entry_eq]
  generalize (lg_sl As ++ List.replicate (maxL - (lg_sl As).length) Slot.unset).toArray = ls at hl ⊢
  exact body p e s m As.toArray below meth c _ L ⟨B.exec, B.bytes, hml, hown, hts, hK, hA, B.notSynchronized⟩ hG (name_of_methodNamed B.named B.method).1 B.returns hwt hL0 s.heap [] 0 0 ls hP hD va_S.rf hl (by omega) (by omega)
theorem gx_metv {y : MethodName} {ws' : List Cond} {rmY : Room} {maxL mc ms : Nat} {ret : Option FieldType} {As : List Value} {X0 : String → HS → Prop} {post : HS → Prop} (hy : plainName y.cls = true) (hcls : y.cls = own) (hwy : Ts = Cond.code y cc maxL ret :: ws') (hlen : (lg_sl As).length ≤ maxL) (body : ∀ (p : Program) (e : Env) (s : State) (m : MethodId) (args : Array Value) (below : List Frame) (meth : Method) (c : Code) (A : Nat → Prop) (L : List Nat), GC p s m args meth c cc own Ts maxL D A (zty T) → GE T A s → meth.name = y.name → meth.sig.returnType = ret → (∀ z ∈ c.exceptionTable.toList, False) → wt S → hL S L → GW p l e { rmY with cells := mc, slots := ms } s m args below meth c D A maxL mc ms (vx_MQ below (va_Qv (fun (u : HS × List Nat) => post u.1 ∧ CO S u) (CE D T A) A) (CXX D T A S X0) args s mc ms A) (CW T S L) mc ms 0 (lv_args 0 As) []) : CXv l y Ts rmY D T As S mc ms post X0 := by
  intro sz L hL0 hwt
  refine vx_ofW (cc := cc) (maxL := maxL) (ret := ret) hy hwy ?_
  intro p e s m args below meth c s₁ B hml htab hv
  obtain ⟨rfl, hsz, hP, hK, hD0, hG⟩ := hv
  have hts := atoms_spec (ws := Ts) B.pre
  have hown : s.vm.findClass own = some m.cls := by rw [← hcls]; exact findClass_of_methodNamed B.named
  subst hsz
  have hD := hD0.self (sz := s.heap.size)
  have hA : ∀ x : Nat, s.heap.size ≤ x → va_A (CW T S L) s.heap.size x := fun x h => Or.inr h
  have hl := lv_entry As (n := maxL) hlen
  rw [lg_entry_eq]
  generalize (lg_sl As ++ List.replicate (maxL - (lg_sl As).length) Slot.unset).toArray = ls at hl ⊢
  exact body p e s m As.toArray below meth c _ L ⟨B.exec, B.bytes, hml, hown, hts, hK, hA, B.notSynchronized⟩ hG (name_of_methodNamed B.named B.method).1 B.returns htab hwt hL0 s.heap [] 0 0 ls hP hD va_S.rf hl (by omega) (by omega)
theorem gc_metq {y : MethodName} {ws' : List Cond} {rmY : Room} {maxL mc ms : Nat} {ret : Option FieldType} {As : List Value} {kd : Nat} {post : Option Nat → HS → Prop} (hy : plainName y.cls = true) (hcls : y.cls = own) (hwy : Ts = Cond.code y cc maxL ret :: ws') (hlen : (lg_sl As).length ≤ maxL) (body : ∀ (p : Program) (e : Env) (s : State) (m : MethodId) (args : Array Value) (below : List Frame) (meth : Method) (c : Code) (A : Nat → Prop) (L : List Nat), GC p s m args meth c cc own Ts maxL D A (zty T) → GE T A s → meth.name = y.name → meth.sig.returnType = ret → wt S → hL S L → GW p l e { rmY with cells := mc, slots := ms } s m args below meth c D A maxL mc ms (MQ below (va_Qq (fun v (u : HS × List Nat) => (post v u.1 ∧ ∀ b, v = some b → hK u.1 b = kd) ∧ CO S u) (CE D T A) A) args s mc ms A) (CW T S L) mc ms 0 (lv_args 0 As) []) : CMq l y Ts rmY D T As S mc ms kd post := by
  intro sz L hL0 hwt
  refine Met.ofW (cc := cc) (maxL := maxL) (ret := ret) hy hwy ?_
  intro p e s m args below meth c s₁ B hml hv
  obtain ⟨rfl, hsz, hP, hK, hD0, hG⟩ := hv
  have hts := atoms_spec (ws := Ts) B.pre
  have hown : s.vm.findClass own = some m.cls := by rw [← hcls]; exact findClass_of_methodNamed B.named
  subst hsz
  have hD := hD0.self (sz := s.heap.size)
  have hA : ∀ x : Nat, s.heap.size ≤ x → va_A (CW T S L) s.heap.size x := fun x h => Or.inr h
  have hl := lv_entry As (n := maxL) hlen
  rw [lg_entry_eq]
  generalize (lg_sl As ++ List.replicate (maxL - (lg_sl As).length) Slot.unset).toArray = ls at hl ⊢
  exact body p e s m As.toArray below meth c _ L ⟨B.exec, B.bytes, hml, hown, hts, hK, hA, B.notSynchronized⟩ hG (name_of_methodNamed B.named B.method).1 B.returns hwt hL0 s.heap [] 0 0 ls hP hD va_S.rf hl (by omega) (by omega)
theorem gx_metq {y : MethodName} {ws' : List Cond} {rmY : Room} {maxL mc ms : Nat} {ret : Option FieldType} {As : List Value} {kd : Nat} {X0 : String → HS → Prop} {post : Option Nat → HS → Prop} (hy : plainName y.cls = true) (hcls : y.cls = own) (hwy : Ts = Cond.code y cc maxL ret :: ws') (hlen : (lg_sl As).length ≤ maxL) (body : ∀ (p : Program) (e : Env) (s : State) (m : MethodId) (args : Array Value) (below : List Frame) (meth : Method) (c : Code) (A : Nat → Prop) (L : List Nat), GC p s m args meth c cc own Ts maxL D A (zty T) → GE T A s → meth.name = y.name → meth.sig.returnType = ret → (∀ z ∈ c.exceptionTable.toList, False) → wt S → hL S L → GW p l e { rmY with cells := mc, slots := ms } s m args below meth c D A maxL mc ms (vx_MQ below (va_Qq (fun v (u : HS × List Nat) => (post v u.1 ∧ ∀ b, v = some b → hK u.1 b = kd) ∧ CO S u) (CE D T A) A) (CXX D T A S X0) args s mc ms A) (CW T S L) mc ms 0 (lv_args 0 As) []) : CXq l y Ts rmY D T As S mc ms kd post X0 := by
  intro sz L hL0 hwt
  refine vx_ofW (cc := cc) (maxL := maxL) (ret := ret) hy hwy ?_
  intro p e s m args below meth c s₁ B hml htab hv
  obtain ⟨rfl, hsz, hP, hK, hD0, hG⟩ := hv
  have hts := atoms_spec (ws := Ts) B.pre
  have hown : s.vm.findClass own = some m.cls := by rw [← hcls]; exact findClass_of_methodNamed B.named
  subst hsz
  have hD := hD0.self (sz := s.heap.size)
  have hA : ∀ x : Nat, s.heap.size ≤ x → va_A (CW T S L) s.heap.size x := fun x h => Or.inr h
  have hl := lv_entry As (n := maxL) hlen
  rw [lg_entry_eq]
  generalize (lg_sl As ++ List.replicate (maxL - (lg_sl As).length) Slot.unset).toArray = ls at hl ⊢
  exact body p e s m As.toArray below meth c _ L ⟨B.exec, B.bytes, hml, hown, hts, hK, hA, B.notSynchronized⟩ hG (name_of_methodNamed B.named B.method).1 B.returns htab hwt hL0 s.heap [] 0 0 ls hP hD va_S.rf hl (by omega) (by omega)
theorem k_ne {S : HS} {x kd : Nat} (h : hK S x = kd) (h0 : kd ≠ 0) : hK S x ≠ 0 := by rw [h]; exact h0
theorem rf_cat (o : Option Nat) : (va_rf o).category = 1 := by cases o <;> rfl
theorem rf_nar (n : String) (o : Option Nat) : narrow (.object n) (va_rf o) = va_rf o := by cases o <;> rfl
theorem rf_fit (n : String) (o : Option Nat) : fits (.object n) (va_rf o) = true := by cases o <;> rfl
theorem vc_f {v : Int32} (h : vc v) : fits .char (.int v) = true := h.2
theorem g_null {ws : va_W} {tys : List (ClassId × FieldType)} (C : GC p s m args meth c cc own Ts nL D A tys) (hdg : decode cc pc = .ok (.aconst_null, 1)) (k : GW p l e R s m args below meth c D A nL KC KS Q ws kc ks (pc + 1) lv (.null :: st)) : GW p l e R s m args below meth c D A nL KC KS Q ws kc ks pc lv st := fun H locs cells slots ls hP hD hS hl hc hs => lv_null C.1 C.2.1 hdg (k H locs cells slots ls hP hD hS hl hc hs)
theorem g_ifnull {ws : va_W} {tys : List (ClassId × FieldType)} (C : GC p s m args meth c cc own Ts nL D A tys) {y : Nat} {off : Int} (hdg : decode cc pc = .ok (.ifnull off, 3)) (k : GW p l e R s m args below meth c D A nL KC KS Q ws kc ks (pc + 3) lv st) : GW p l e R s m args below meth c D A nL KC KS Q ws kc ks pc lv (.ref y :: st) := fun H locs cells slots ls hP hD hS hl hc hs => lv_ifnull C.1 C.2.1 hdg (k H locs cells slots ls hP hD hS hl hc hs)
theorem g_ifnonnull {ws : va_W} {tys : List (ClassId × FieldType)} (C : GC p s m args meth c cc own Ts nL D A tys) {y : Nat} {off : Int} {tgt : Nat} (hdg : decode cc pc = .ok (.ifnonnull off, 3)) (ht : (pc : Int) + off = (tgt : Int)) (k : GW p l e R s m args below meth c D A nL KC KS Q ws kc ks tgt lv st) : GW p l e R s m args below meth c D A nL KC KS Q ws kc ks pc lv (.ref y :: st) := fun H locs cells slots ls hP hD hS hl hc hs => lv_ifnonnull C.1 C.2.1 hdg ht (k H locs cells slots ls hP hD hS hl hc hs)
theorem g_ifnullN {ws : va_W} {tys : List (ClassId × FieldType)} (C : GC p s m args meth c cc own Ts nL D A tys) {off : Int} {tgt : Nat} (hdg : decode cc pc = .ok (.ifnull off, 3)) (ht : (pc : Int) + off = (tgt : Int)) (k : GW p l e R s m args below meth c D A nL KC KS Q ws kc ks tgt lv st) : GW p l e R s m args below meth c D A nL KC KS Q ws kc ks pc lv (.null :: st) := fun H locs cells slots ls hP hD hS hl hc hs => lv_ifnullN C.1 C.2.1 hdg ht (k H locs cells slots ls hP hD hS hl hc hs)
theorem g_ifnonnullN {ws : va_W} {tys : List (ClassId × FieldType)} (C : GC p s m args meth c cc own Ts nL D A tys) {off : Int} (hdg : decode cc pc = .ok (.ifnonnull off, 3)) (k : GW p l e R s m args below meth c D A nL KC KS Q ws kc ks (pc + 3) lv st) : GW p l e R s m args below meth c D A nL KC KS Q ws kc ks pc lv (.null :: st) := fun H locs cells slots ls hP hD hS hl hc hs => lv_ifnonnullN C.1 C.2.1 hdg (k H locs cells slots ls hP hD hS hl hc hs)
theorem g_qload_n {ws : va_W} {tys : List (ClassId × FieldType)} (C : GC p s m args meth c cc own Ts nL D A tys) {k0 : Fin 4} {i : Nat} {o : Option Nat} (hdg : decode cc pc = .ok (.aload_n k0, 1)) (hi : (k0 : Nat) = i) (j : Nat) (hj : lv[j]? = some (i, va_rf o)) (k : GW p l e R s m args below meth c D A nL KC KS Q ws kc ks (pc + 1) lv (va_rf o :: st)) : GW p l e R s m args below meth c D A nL KC KS Q ws kc ks pc lv st := fun H locs cells slots ls hP hD hS hl hc hs => by
  cases o with
  | none => exact lv_aload_nN C.1 C.2.1 hdg hi (lv_at hl j hj) (k H locs cells slots ls hP hD hS hl hc hs)
  | some b => exact lv_aload_n C.1 C.2.1 hdg hi (lv_at hl j hj) (k H locs cells slots ls hP hD hS hl hc hs)
theorem g_qload {ws : va_W} {tys : List (ClassId × FieldType)} (C : GC p s m args meth c cc own Ts nL D A tys) {i : Nat} {o : Option Nat} (hdg : decode cc pc = .ok (.aload i, 2)) (j : Nat) (hj : lv[j]? = some (i, va_rf o)) (k : GW p l e R s m args below meth c D A nL KC KS Q ws kc ks (pc + 2) lv (va_rf o :: st)) : GW p l e R s m args below meth c D A nL KC KS Q ws kc ks pc lv st := fun H locs cells slots ls hP hD hS hl hc hs => by
  cases o with
  | none => exact lv_aloadN C.1 C.2.1 hdg (lv_at hl j hj) (k H locs cells slots ls hP hD hS hl hc hs)
  | some b => exact lv_aload C.1 C.2.1 hdg (lv_at hl j hj) (k H locs cells slots ls hP hD hS hl hc hs)
theorem g_qstore_n {ws : va_W} {tys : List (ClassId × FieldType)} (C : GC p s m args meth c cc own Ts nL D A tys) {k0 : Fin 4} {i : Nat} {o : Option Nat} {lv lv' : List (Nat × Value)} (hdg : decode cc pc = .ok (.astore_n k0, 1)) (hi : (k0 : Nat) = i) (hn : i < nL) (hv : (i, va_rf o) :: lv.filter (fun q => !(q.1 == i) && !(q.1 + 1 == i && q.2.category == 2)) = lv') (k : GW p l e R s m args below meth c D A nL KC KS Q ws kc ks (pc + 1) lv' st) : GW p l e R s m args below meth c D A nL KC KS Q ws kc ks pc lv (va_rf o :: st) := fun H locs cells slots ls hP hD hS hl hc hs => by
  cases o with
  | none => exact lv_astore_nN C.1 C.2.1 hdg hi hl hn hv (fun ls2 hl2 => k H locs cells slots ls2 hP hD hS hl2 hc hs)
  | some b => exact lv_astore_n C.1 C.2.1 hdg hi hl hn hv (fun ls2 hl2 => k H locs cells slots ls2 hP hD hS hl2 hc hs)
theorem g_qstore {ws : va_W} {tys : List (ClassId × FieldType)} (C : GC p s m args meth c cc own Ts nL D A tys) {i : Nat} {o : Option Nat} {lv lv' : List (Nat × Value)} (hdg : decode cc pc = .ok (.astore i, 2)) (hn : i < nL) (hv : (i, va_rf o) :: lv.filter (fun q => !(q.1 == i) && !(q.1 + 1 == i && q.2.category == 2)) = lv') (k : GW p l e R s m args below meth c D A nL KC KS Q ws kc ks (pc + 2) lv' st) : GW p l e R s m args below meth c D A nL KC KS Q ws kc ks pc lv (va_rf o :: st) := fun H locs cells slots ls hP hD hS hl hc hs => by
  cases o with
  | none => exact lv_astoreN C.1 C.2.1 hdg hl hn hv (fun ls2 hl2 => k H locs cells slots ls2 hP hD hS hl2 hc hs)
  | some b => exact lv_astore C.1 C.2.1 hdg hl hn hv (fun ls2 hl2 => k H locs cells slots ls2 hP hD hS hl2 hc hs)
theorem gc_aastq (C : GC p s m args meth c cc own Ts nL D A (zty T)) (hL0 : hL S L) {kd ke N : Nat} {Cn : String} {Tn : u_T} (hx : hK S x = kd) (h0 : 25 ≤ kd) (ht : (zty T)[kd - 20]? = some (T (kd - 20), .object Cn)) {o : Option Nat} (hv : ∀ b, o = some b → hK S b = ke) (he : ke ≠ 0) (he2 : ke < 20) (hcl : vwCl[clx ke]? = some (Cn, Tn, N)) {i : Int32} (hin : vp_in i (hN S x)) (hdg : decode cc pc = .ok (.aastore, 1)) (kk : GW p l e R s m args below meth c D A nL KC KS Q (CW T (putB S x i.toNatClampNeg o) L) kc ks (pc + 1) lv st) : GW p l e R s m args below meth c D A nL KC KS Q (CW T S L) kc ks pc lv (va_rf o :: .int i :: .ref x :: st) := by
  cases o with
  | none => exact gc_aastN C hL0 hx h0 ht hin hdg kk
  | some b => exact gc_aast C hL0 hx h0 ht (hv b rfl) he he2 hcl hin hdg kk
theorem g_objInit {ws : va_W} {tys : List (ClassId × FieldType)} (C : GC p s m args meth c cc own Ts nL D A tys) {idx y : Nat} (hlink : (Cond.methodLink own idx Lib.objectInit).before args s = true) (hinst : (Cond.instanceMethod Lib.objectInit).before args s = true) (hcode : (Cond.code Lib.objectInit ⟨#[0xb1]⟩ 1 none).before args s = true) (hdg : decode cc pc = .ok (.invokespecial idx, 3)) (hframes : 1 ≤ R.frames) (hlocals : (st.map fun v => v.category).sum + 12 ≤ R.locals) (k : GW p l e R s m args below meth c D A nL KC KS Q ws kc ks (pc + 3) lv st) : GW p l e R s m args below meth c D A nL KC KS Q ws kc ks pc lv (.ref y :: st) := fun H locs cells slots ls hP hD hS hl hc hs => W.objInit C.1 C.2.1 C.2.2.2.1 hlink hinst hcode rfl (hl.1.trans C.2.2.1.symm) rfl hdg hframes (by show 2 * 0 + _ + 12 ≤ _; omega) (W.eq (g2 := F0 m (pc + 3) ls st) rfl (k H locs cells slots ls hP hD hS hl hc hs))
theorem gc_castI (C : GC p s m args meth c cc own Ts nL D A (zty T)) (hL0 : hL S L) (hx : hK S x = 22) {idx : Nat} (hlink : (Cond.classLink own idx "[I").before args s = true) (hdg : decode cc pc = .ok (.checkcast idx, 3)) (kk : GW p l e R s m args below meth c D A nL KC KS Q (CW T S L) kc ks (pc + 3) lv (.ref x :: st)) : GW p l e R s m args below meth c D A nL KC KS Q (CW T S L) kc ks pc lv (.ref x :: st) := by
  intro H locs cells slots ls hP0 hD0 hS hl hc hs
  have hG := cw_gd hP0
  have hP := hP0
  have hD := hD0
  rw [cw_eq hG] at hP hD
  obtain ⟨k0, hk0⟩ := pl_at (f := wF T S) (cw_mem hG hL0 hx (by decide) (Or.inl (by decide)))
  rw [wF_int hx (by decide) (by decide)] at hk0
  exact va_castA C.1 C.2.1 C.2.2.2.1 hlink hP k0 hk0 (C.2.2.2.2.2.1.2 2 (T 2, .int) rfl).2 hdg (kk H locs cells slots ls hP0 hD0 hS hl hc hs)
theorem gc_castO (C : GC p s m args meth c cc own Ts nL D A (zty T)) (E : GE T A s) (hL0 : hL S L) {kd N : Nat} {Cn : String} {Tn : u_T} (hx : hK S x = kd) (h0 : kd ≠ 0) (h1 : kd < 20) (hcl : vwCl[clx kd]? = some (Cn, Tn, N)) {idx : Nat} (hlink : (Cond.classLink own idx Cn).before args s = true) (hdg : decode cc pc = .ok (.checkcast idx, 3)) (kk : GW p l e R s m args below meth c D A nL KC KS Q (CW T S L) kc ks (pc + 3) lv (.ref x :: st)) : GW p l e R s m args below meth c D A nL KC KS Q (CW T S L) kc ks pc lv (.ref x :: st) := by
  intro H locs cells slots ls hP hD hS hl hc hs
  obtain ⟨k0, hk0⟩ := cw_objC (T := T) hP hL0 hx h0 h1
  exact va_castS C.1 C.2.1 C.2.2.2.1 hlink (C.2.2.2.2.2.1.1 (clx kd) _ hcl).2 (va_recv C.2.2.2.2.2.1 hP hcl hk0) hdg (kk H locs cells slots ls hP hD hS hl hc hs)
theorem w0_SN {T : Nat → ClassId} {A : Nat → Prop} {R : Room} {s : State} {args : Array Value} {own host : String} {idx : Nat} {y : MethodName} {bytes : ByteArray} {maxL : Nat} {ret : Option FieldType} {cM : Cond} {rm : Room} {mc ms : Nat} (n : Nat) (E : GE T A s) (hts : ∀ w ∈ cM :: W0, w.before args s = true) (hq : (own, idx, y, host) ∈ nestL) (h2 : Cond.static y ∈ W0) (h4 : Cond.initialized y.cls ∈ W0) (h5 : Cond.code y bytes maxL ret ∈ W0) (hrc : rm.cells = mc) (hrs : rm.slots = ms) (hd : y.cls ≠ "java/lang/invoke/MethodHandle" ∧ y.cls ≠ "java/lang/invoke/VarHandle" ∧ (parseMethodDescriptor y.desc).map (fun d => d.parameters.length) = some n) (hR : rm.frames + 1 ≤ R.frames ∧ 8 + (maxL + 11) + rm.locals ≤ R.locals) : va_CN R s args own idx y host bytes maxL ret (Cond.code y bytes maxL ret :: W0) rm mc ms n ∧ (Cond.static y).before args s = true ∧ True := by
  have up : ∀ w ∈ W0, w.before args s = true := fun w h => hts w (List.mem_cons_of_mem _ h)
  refine ⟨va_cnB n hts (fun w h => ?_) rfl hrc hrs (E.1 _ hq) (up _ h4) hd hR, up _ h2, trivial⟩
  have hm : w ∈ W0 := by
    rcases List.mem_cons.mp h with rfl | h
    · exact h5
    · exact h
  exact ⟨List.mem_cons_of_mem _ hm, w0_good hm⟩
theorem w0_IN {T : Nat → ClassId} {A : Nat → Prop} {R : Room} {s : State} {args : Array Value} {own host : String} {idx : Nat} {y : MethodName} {bytes : ByteArray} {maxL : Nat} {cM : Cond} {rm : Room} {mc ms : Nat} (n : Nat) (E : GE T A s) (hts : ∀ w ∈ cM :: W0, w.before args s = true) (hq : (own, idx, y, host) ∈ nestL) (h2 : Cond.instanceMethod y ∈ W0) (h4 : Cond.initialized y.cls ∈ W0) (h5 : Cond.code y bytes maxL none ∈ W0) (hrc : rm.cells = mc) (hrs : rm.slots = ms) (hy1 : y.name = "<init>") (hd : y.cls ≠ "java/lang/invoke/MethodHandle" ∧ y.cls ≠ "java/lang/invoke/VarHandle" ∧ (parseMethodDescriptor y.desc).map (fun d => d.parameters.length) = some n) (hR : rm.frames + 1 ≤ R.frames ∧ 8 + (maxL + 11) + rm.locals ≤ R.locals) : va_CN R s args own idx y host bytes maxL none (Cond.code y bytes maxL none :: W0) rm mc ms n ∧ y.name = "<init>" ∧ (Cond.instanceMethod y).before args s = true := by
  have up : ∀ w ∈ W0, w.before args s = true := fun w h => hts w (List.mem_cons_of_mem _ h)
  refine ⟨va_cnB n hts (fun w h => ?_) rfl hrc hrs (E.1 _ hq) (up _ h4) hd hR, hy1, up _ h2⟩
  have hm : w ∈ W0 := by
    rcases List.mem_cons.mp h with rfl | h
    · exact h5
    · exact h
  exact ⟨List.mem_cons_of_mem _ hm, w0_good hm⟩
end GCLSN
