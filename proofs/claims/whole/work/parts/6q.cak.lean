section S_CAK
/-- a row of numbers as a whole -/
def putAA (S : HS) (y : Nat) (row : Nat → Int32) : HS := (hK S, hN S, hI S, hR S, va_up (hA S) y row, hB S)
/-- a builder's capacity as it grows, and what that costs from there on -/
def gM (m q : Nat) : Nat := if q ≤ m then m else if q ≤ 2 * m + 2 then 2 * m + 2 else if q ≤ 4 * m + 6 then 4 * m + 6 else if q ≤ 8 * m + 14 then 8 * m + 14 else 16 * m + 30
def pC (m : Nat) : Nat := if 200 ≤ m then 0 else if 99 ≤ m then 1 else if 49 ≤ m then 2 else if 24 ≤ m then 3 else 4
def pS (m : Nat) : Nat := if 200 ≤ m then 0 else 804 - 2 * m
def sbC (S : HS) (x : Nat) : Nat := hN S ((hR S 240 x).getD 0)
def sbM (S : HS) (x b : Nat) : Prop := b = x ∨ hR S 240 x = some b
/-- a builder has taken on letters -/
def sbT (S S1 : HS) (x : Nat) (sh sh1 : List Int32) : Prop := SbO S1 x sh1 ∧ frM S S1 (sbM S x) ∧ sbC S1 x = gM (sbC S x) sh1.length ∧ ∃ r, hR S1 240 x = some r ∧ (hK S r = 0 ∨ hR S 240 x = some r)
/-- what that needs -/
def sbB (S : HS) (x q mc ms : Nat) : Prop := pC (sbC S x) - pC (gM (sbC S x) q) ≤ mc ∧ pS (sbC S x) - pS (gM (sbC S x) q) ≤ ms
/-- only a row's numbers differ -/
def aoN (S S1 : HS) (r : Nat) : Prop := hK S1 = hK S ∧ hN S1 = hN S ∧ hI S1 = hI S ∧ hR S1 = hR S ∧ hB S1 = hB S ∧ ∀ b, b ≠ r → hA S1 b = hA S b
section SBR
variable {p : Program} {l : Launch} {e : Env} {R : Room} {s : State} {m : MethodId} {args : Array Value} {below : List Frame} {meth : Method} {c : Code} {D : va_G} {A : Nat → Prop} {nL KC KS : Nat} {Q : State → Prop}
variable {kc ks pc : Nat} {lv : List (Nat × Value)} {st : List Value} {cc : ByteArray} {own : String} {Ts : List Cond} {T : Nat → ClassId} {S : HS} {L : List Nat} {x : Nat}
theorem aa_K (S : HS) (y : Nat) (row : Nat → Int32) : hK (putAA S y row) = hK S := Eq.trans rfl rfl
theorem aa_N (S : HS) (y : Nat) (row : Nat → Int32) : hN (putAA S y row) = hN S := Eq.trans rfl rfl
theorem aa_I (S : HS) (y : Nat) (row : Nat → Int32) : hI (putAA S y row) = hI S := Eq.trans rfl rfl
theorem aa_R (S : HS) (y : Nat) (row : Nat → Int32) : hR (putAA S y row) = hR S := Eq.trans rfl rfl
theorem aa_B (S : HS) (y : Nat) (row : Nat → Int32) : hB (putAA S y row) = hB S := Eq.trans rfl rfl
theorem aa_A (S : HS) (y : Nat) (row : Nat → Int32) (b : Nat) : hA (putAA S y row) b = if b = y then row else hA S b := Eq.trans rfl rfl
theorem wt_aa {S : HS} (h : wt S) {y : Nat} {row : Nat → Int32} (hx : hK S y ≠ 0) : wt (putAA S y row) := by
  refine ⟨fun a ha => ?_, h.2.1, h.2.2.1, h.2.2.2⟩
  obtain ⟨z1, z2, z3, z4⟩ := h.1 a ha
  refine ⟨z1, z2, fun j => ?_, z4⟩
  rw [aa_A, if_neg (fun z => hx (by rw [← z]; exact ha))]
  exact z3 j
theorem by_fit : ∀ c, c < 128 → fits .byte (.int (nI c)) = true := by decide +kernel
theorem by_nar : ∀ c, c < 128 → vp_nar .byte (nI c) = nI c := by decide +kernel
theorem gt_cpyB (C : GC p s m args meth c cc own Ts nL D A (zty T)) (hL0 : hL S L) {x y idx : Nat} (hx : hK S x = 20) (hy : hK S y = 20) (hlink : (Cond.methodLink own idx arraycopyName).before args s = true) (hnat : (Cond.native arraycopyName).before args s = true) (hstat : (Cond.static arraycopyName).before args s = true) (hini : (Cond.initialized "java/lang/System").before args s = true) {sp dp n : Int32} (h1 : ¬ sp < 0) (h2 : ¬ dp < 0) (h3 : ¬ n < 0) (h4 : sp.toNatClampNeg + n.toNatClampNeg ≤ hN S x) (h5 : dp.toNatClampNeg + n.toNatClampNeg ≤ hN S y) (hel : ∀ i : Nat, i < n.toNatClampNeg → ∃ b : Nat, b < 128 ∧ hA S x (sp.toNatClampNeg + i) = nI b) (hframes : 1 ≤ R.frames) (hlocals : (st.map fun v => v.category).sum + (nativeFrameWords "java/lang/System" "arraycopy" 5 + 11) ≤ R.locals) (hdg : decode cc pc = .ok (.invokestatic idx, 3)) (kk : GW p l e R s m args below meth c D A nL KC KS Q (CW T (putAA S y (va_cpy (hA S x) (hA S y) sp.toNatClampNeg dp.toNatClampNeg n.toNatClampNeg)) L) kc ks (pc + 3) lv st) : GW p l e R s m args below meth c D A nL KC KS Q (CW T S L) kc ks pc lv (.int n :: .int dp :: .ref y :: .int sp :: .ref x :: st) := by
  intro H locs cells slots ls hP0 hD0 hS hl hc hs
  have hG := cw_gd hP0
  have hP := hP0
  have hD := hD0
  rw [cw_eq hG] at hP hD
  obtain ⟨k0, hk0⟩ := pl_at (f := wF T S) (cw_mem hG hL0 hx (by decide) (Or.inl (by decide)))
  rw [wF_int hx (by decide) (by decide)] at hk0
  have hm := cw_mem hG hL0 hy (by decide) (Or.inl (by decide))
  obtain ⟨k2, hk2⟩ := pl_at (f := wF T S) hm
  have hk1 := hk2
  rw [wF_int hy (by decide) (by decide)] at hk2
  refine va_copyi C.1 C.2.1 (C.2.2.1.trans hl.1.symm) C.2.2.2.1 hlink hnat hstat hini C.2.2.2.2.2.1 hP hD hS k0 k2 0 0 hk0 hk2 rfl rfl rfl h1 h2 h3 h4 h5 (fun i hi => ?_) hframes hlocals hdg (fun H1 locs1 hP1 hD1 hS1 => ?_)
  · obtain ⟨b, hb, e⟩ := hel i hi
    rw [e]
    exact by_fit b hb
  · have e := pl_set (g := wF T (putAA S y (va_cpy (hA S x) (hA S y) sp.toNatClampNeg dp.toNatClampNeg n.toNatClampNeg))) (e := .inl (T (20 - 20), hN S y, .inl (va_cpy (hA S x) (hA S y) sp.toNatClampNeg dp.toNatClampNeg n.toNatClampNeg))) hD hm hk1 (by
      rw [wF_int (kd := 20) (show hK (putAA S y (va_cpy (hA S x) (hA S y) sp.toNatClampNeg dp.toNatClampNeg n.toNatClampNeg)) y = 20 from hy) (by decide) (by decide), aa_A, if_pos rfl, aa_N]) (fun b hb9 => wF_off rfl rfl (fun j => rfl) (fun j => rfl) (by rw [aa_A, if_neg hb9]) rfl)
    rw [e, ← cw_eq (T := T) (S := putAA S y (va_cpy (hA S x) (hA S y) sp.toNatClampNeg dp.toNatClampNeg n.toNatClampNeg)) (L := L) (show okG T (putAA S y (va_cpy (hA S x) (hA S y) sp.toNatClampNeg dp.toNatClampNeg n.toNatClampNeg)) from hG)] at hP1 hD1
    exact kk H1 locs1 cells slots ls hP1 hD1 hS1 hl hc hs
theorem gc_calliU (C : GC p s m args meth c cc own Ts nL D A (zty T)) {y : MethodName} {bytes : ByteArray} {maxL n idx mc ms : Nat} {ret : Option FieldType} {wsY : List Cond} {rmY : Room} {host owner : String} {post : Int32 → HS → Prop} (E : GE T A s) (hw : wt S) (hL0 : hL S L) {kr Nr : Nat} {Cn : String} {Tn : u_T} (hx : hK S x = kr) (hr0 : kr ≠ 0) (hr1 : kr < 20) (hcl : vwCl[clx kr]? = some (Cn, Tn, Nr)) (As : List Value) {stk : List Value} (hst : stk = As.reverse ++ .ref x :: st) (hM : CMi l y wsY rmY D T (.ref x :: As) S mc ms post) (cw : va_CU R s args own Cn owner idx y y bytes maxL ret wsY { rmY with cells := mc, slots := ms } mc ms n) (hn : As.length = n) (hroom : (st.map fun v => v.category).sum ≤ 8) (hKC : KC ≤ R.cells) (hKS : KS ≤ R.slots) (hkc : mc ≤ kc) (hks : ms ≤ ks) (hdg : decode cc pc = .ok (.invokevirtual idx, 3)) (kk : ∀ (v : Int32) (S1 : HS) (L1 : List Nat), ext S S1 → wt S1 → hL S1 L1 → post v S1 → GW p l e R s m args below meth c D A nL KC KS Q (CW T S1 L1) (kc - mc) (ks - ms) (pc + 3) lv (.int v :: st)) : GW p l e R s m args below meth c D A nL KC KS Q (CW T S L) kc ks pc lv stk := by
  subst hst
  intro H locs cells slots ls hP hD hS hl hc hs
  obtain ⟨k0, hk0⟩ := cw_objC (T := T) hP hL0 hx hr0 hr1
  have hFc : ∀ z, va_A (CW T S L) H.size z → A z := fun z h => by
    rcases h with ⟨k, e, h⟩ | h
    · exact hD.2 k _ h
    · exact C.2.2.2.2.2.2.1 z (Nat.le_trans hS.1 h)
  refine va_calli (va_runU (As := As) (rest := st) ⟨C.1, C.2.1, C.2.2.1, C.2.2.2.1, C.2.2.2.2.1⟩ (hM H.size L hL0 hw) cw ⟨CB_blind, va_recv C.2.2.2.2.2.1 hP hcl hk0, fun U hU hW => ⟨rfl, by rw [hU], by rw [hU]; exact hP, va_K.moved hW.alike C.2.2.2.2.2.1, hD.weaken (fun _ _ _ _ => trivial), GE_call E hS hU hW hFc⟩⟩ rfl hn hl.1 rfl (lv_room hroom) hdg ⟨by omega, by omega⟩) hS (fun z _ h => hFc z h) hFc (fun v u t H1 locs1 ht hvm hw9 hB hz1 hk1 hS1 => ?_)
  obtain ⟨hp1, hx1, hw1, hL1⟩ := hw9
  obtain ⟨S1, L1⟩ := u
  obtain ⟨hP1, hK1, hD1⟩ := hB
  rw [ht] at hP1
  exact kk v S1 L1 hx1 hw1 hL1 hp1 H1 locs1 (cells + mc) (slots + ms) ls hP1 (hD1.weaken (fun _ z _ h => hFc z.1 h)) hS1 hl (by omega) (by omega)
theorem gc_calliSU (C : GC p s m args meth c cc own Ts nL D A (zty T)) {y : MethodName} {bytes : ByteArray} {maxL n idx mc ms : Nat} {ret : Option FieldType} {wsY : List Cond} {rmY : Room} {host : String} {post : Int32 → HS → Prop} (E : GE T A s) (hw : wt S) (hL0 : hL S L) {kr Nr : Nat} {Cn : String} {Tn : u_T} (hx : hK S x = kr) (hr0 : kr ≠ 0) (hr1 : kr < 20) (hcl : vwCl[clx kr]? = some (Cn, Tn, Nr)) (As : List Value) {stk : List Value} (hst : stk = As.reverse ++ .ref x :: st) (hM : CMi l y wsY rmY D T (.ref x :: As) S mc ms post) (cw : va_CS R s args own idx y bytes maxL ret wsY { rmY with cells := mc, slots := ms } mc ms n) (hn : As.length = n) (hroom : (st.map fun v => v.category).sum ≤ 8) (hKC : KC ≤ R.cells) (hKS : KS ≤ R.slots) (hkc : mc ≤ kc) (hks : ms ≤ ks) (hdg : decode cc pc = .ok (.invokespecial idx, 3)) (kk : ∀ (v : Int32) (S1 : HS) (L1 : List Nat), ext S S1 → wt S1 → hL S1 L1 → post v S1 → GW p l e R s m args below meth c D A nL KC KS Q (CW T S1 L1) (kc - mc) (ks - ms) (pc + 3) lv (.int v :: st)) : GW p l e R s m args below meth c D A nL KC KS Q (CW T S L) kc ks pc lv stk := by
  subst hst
  intro H locs cells slots ls hP hD hS hl hc hs
  obtain ⟨k0, hk0⟩ := cw_objC (T := T) hP hL0 hx hr0 hr1
  have hFc : ∀ z, va_A (CW T S L) H.size z → A z := fun z h => by
    rcases h with ⟨k, e, h⟩ | h
    · exact hD.2 k _ h
    · exact C.2.2.2.2.2.2.1 z (Nat.le_trans hS.1 h)
  refine va_calli (va_runSU (C.2.2.2.2.2.1.1 (clx kr) _ hcl).2 (As := As) (rest := st) ⟨C.1, C.2.1, C.2.2.1, C.2.2.2.1, C.2.2.2.2.1⟩ (hM H.size L hL0 hw) cw ⟨CB_blind, va_recv C.2.2.2.2.2.1 hP hcl hk0, fun U hU hW => ⟨rfl, by rw [hU], by rw [hU]; exact hP, va_K.moved hW.alike C.2.2.2.2.2.1, hD.weaken (fun _ _ _ _ => trivial), GE_call E hS hU hW hFc⟩⟩ rfl hn hl.1 rfl (lv_room hroom) hdg ⟨by omega, by omega⟩) hS (fun z _ h => hFc z h) hFc (fun v u t H1 locs1 ht hvm hw9 hB hz1 hk1 hS1 => ?_)
  obtain ⟨hp1, hx1, hw1, hL1⟩ := hw9
  obtain ⟨S1, L1⟩ := u
  obtain ⟨hP1, hK1, hD1⟩ := hB
  rw [ht] at hP1
  exact kk v S1 L1 hx1 hw1 hL1 hp1 H1 locs1 (cells + mc) (slots + ms) ls hP1 (hD1.weaken (fun _ z _ h => hFc z.1 h)) hS1 hl (by omega) (by omega)
theorem gc_callvU (C : GC p s m args meth c cc own Ts nL D A (zty T)) {y : MethodName} {bytes : ByteArray} {maxL n idx mc ms : Nat} {ret : Option FieldType} {wsY : List Cond} {rmY : Room} {host owner : String} {post : HS → Prop} (E : GE T A s) (hw : wt S) (hL0 : hL S L) {kr Nr : Nat} {Cn : String} {Tn : u_T} (hx : hK S x = kr) (hr0 : kr ≠ 0) (hr1 : kr < 20) (hcl : vwCl[clx kr]? = some (Cn, Tn, Nr)) (As : List Value) {stk : List Value} (hst : stk = As.reverse ++ .ref x :: st) (hM : CMv l y wsY rmY D T (.ref x :: As) S mc ms post) (cw : va_CU R s args own Cn owner idx y y bytes maxL ret wsY { rmY with cells := mc, slots := ms } mc ms n) (hn : As.length = n) (hroom : (st.map fun v => v.category).sum ≤ 8) (hKC : KC ≤ R.cells) (hKS : KS ≤ R.slots) (hkc : mc ≤ kc) (hks : ms ≤ ks) (hdg : decode cc pc = .ok (.invokevirtual idx, 3)) (kk : ∀ (S1 : HS) (L1 : List Nat), ext S S1 → wt S1 → hL S1 L1 → post S1 → GW p l e R s m args below meth c D A nL KC KS Q (CW T S1 L1) (kc - mc) (ks - ms) (pc + 3) lv st) : GW p l e R s m args below meth c D A nL KC KS Q (CW T S L) kc ks pc lv stk := by
  subst hst
  intro H locs cells slots ls hP hD hS hl hc hs
  obtain ⟨k0, hk0⟩ := cw_objC (T := T) hP hL0 hx hr0 hr1
  have hFc : ∀ z, va_A (CW T S L) H.size z → A z := fun z h => by
    rcases h with ⟨k, e, h⟩ | h
    · exact hD.2 k _ h
    · exact C.2.2.2.2.2.2.1 z (Nat.le_trans hS.1 h)
  refine va_callv (va_runU (As := As) (rest := st) ⟨C.1, C.2.1, C.2.2.1, C.2.2.2.1, C.2.2.2.2.1⟩ (hM H.size L hL0 hw) cw ⟨CB_blind, va_recv C.2.2.2.2.2.1 hP hcl hk0, fun U hU hW => ⟨rfl, by rw [hU], by rw [hU]; exact hP, va_K.moved hW.alike C.2.2.2.2.2.1, hD.weaken (fun _ _ _ _ => trivial), GE_call E hS hU hW hFc⟩⟩ rfl hn hl.1 rfl (lv_room hroom) hdg ⟨by omega, by omega⟩) hS (fun z _ h => hFc z h) hFc (fun u t H1 locs1 ht hvm hw9 hB hz1 hk1 hS1 => ?_)
  obtain ⟨hp1, hx1, hw1, hL1⟩ := hw9
  obtain ⟨S1, L1⟩ := u
  obtain ⟨hP1, hK1, hD1⟩ := hB
  rw [ht] at hP1
  exact kk S1 L1 hx1 hw1 hL1 hp1 H1 locs1 (cells + mc) (slots + ms) ls hP1 (hD1.weaken (fun _ z _ h => hFc z.1 h)) hS1 hl (by omega) (by omega)
theorem gc_callvSU (C : GC p s m args meth c cc own Ts nL D A (zty T)) {y : MethodName} {bytes : ByteArray} {maxL n idx mc ms : Nat} {ret : Option FieldType} {wsY : List Cond} {rmY : Room} {host : String} {post : HS → Prop} (E : GE T A s) (hw : wt S) (hL0 : hL S L) {kr Nr : Nat} {Cn : String} {Tn : u_T} (hx : hK S x = kr) (hr0 : kr ≠ 0) (hr1 : kr < 20) (hcl : vwCl[clx kr]? = some (Cn, Tn, Nr)) (As : List Value) {stk : List Value} (hst : stk = As.reverse ++ .ref x :: st) (hM : CMv l y wsY rmY D T (.ref x :: As) S mc ms post) (cw : va_CS R s args own idx y bytes maxL ret wsY { rmY with cells := mc, slots := ms } mc ms n) (hn : As.length = n) (hroom : (st.map fun v => v.category).sum ≤ 8) (hKC : KC ≤ R.cells) (hKS : KS ≤ R.slots) (hkc : mc ≤ kc) (hks : ms ≤ ks) (hdg : decode cc pc = .ok (.invokespecial idx, 3)) (kk : ∀ (S1 : HS) (L1 : List Nat), ext S S1 → wt S1 → hL S1 L1 → post S1 → GW p l e R s m args below meth c D A nL KC KS Q (CW T S1 L1) (kc - mc) (ks - ms) (pc + 3) lv st) : GW p l e R s m args below meth c D A nL KC KS Q (CW T S L) kc ks pc lv stk := by
  subst hst
  intro H locs cells slots ls hP hD hS hl hc hs
  obtain ⟨k0, hk0⟩ := cw_objC (T := T) hP hL0 hx hr0 hr1
  have hFc : ∀ z, va_A (CW T S L) H.size z → A z := fun z h => by
    rcases h with ⟨k, e, h⟩ | h
    · exact hD.2 k _ h
    · exact C.2.2.2.2.2.2.1 z (Nat.le_trans hS.1 h)
  refine va_callv (va_runSU (C.2.2.2.2.2.1.1 (clx kr) _ hcl).2 (As := As) (rest := st) ⟨C.1, C.2.1, C.2.2.1, C.2.2.2.1, C.2.2.2.2.1⟩ (hM H.size L hL0 hw) cw ⟨CB_blind, va_recv C.2.2.2.2.2.1 hP hcl hk0, fun U hU hW => ⟨rfl, by rw [hU], by rw [hU]; exact hP, va_K.moved hW.alike C.2.2.2.2.2.1, hD.weaken (fun _ _ _ _ => trivial), GE_call E hS hU hW hFc⟩⟩ rfl hn hl.1 rfl (lv_room hroom) hdg ⟨by omega, by omega⟩) hS (fun z _ h => hFc z h) hFc (fun u t H1 locs1 ht hvm hw9 hB hz1 hk1 hS1 => ?_)
  obtain ⟨hp1, hx1, hw1, hL1⟩ := hw9
  obtain ⟨S1, L1⟩ := u
  obtain ⟨hP1, hK1, hD1⟩ := hB
  rw [ht] at hP1
  exact kk S1 L1 hx1 hw1 hL1 hp1 H1 locs1 (cells + mc) (slots + ms) ls hP1 (hD1.weaken (fun _ z _ h => hFc z.1 h)) hS1 hl (by omega) (by omega)
theorem gc_callqU (C : GC p s m args meth c cc own Ts nL D A (zty T)) {y : MethodName} {bytes : ByteArray} {maxL n idx mc ms : Nat} {ret : Option FieldType} {wsY : List Cond} {rmY : Room} {host owner : String} {kd : Nat} {post : Option Nat → HS → Prop} (E : GE T A s) (hw : wt S) (hL0 : hL S L) {kr Nr : Nat} {Cn : String} {Tn : u_T} (hx : hK S x = kr) (hr0 : kr ≠ 0) (hr1 : kr < 20) (hcl : vwCl[clx kr]? = some (Cn, Tn, Nr)) (As : List Value) {stk : List Value} (hst : stk = As.reverse ++ .ref x :: st) (hM : CMq l y wsY rmY D T (.ref x :: As) S mc ms kd post) (cw : va_CU R s args own Cn owner idx y y bytes maxL ret wsY { rmY with cells := mc, slots := ms } mc ms n) (hn : As.length = n) (hroom : (st.map fun v => v.category).sum ≤ 8) (hKC : KC ≤ R.cells) (hKS : KS ≤ R.slots) (hkc : mc ≤ kc) (hks : ms ≤ ks) (hdg : decode cc pc = .ok (.invokevirtual idx, 3)) (kk : ∀ (v : Option Nat) (S1 : HS) (L1 : List Nat), ext S S1 → wt S1 → hL S1 L1 → (∀ b, v = some b → hK S1 b = kd) → post v S1 → GW p l e R s m args below meth c D A nL KC KS Q (CW T S1 L1) (kc - mc) (ks - ms) (pc + 3) lv (va_rf v :: st)) : GW p l e R s m args below meth c D A nL KC KS Q (CW T S L) kc ks pc lv stk := by
  subst hst
  intro H locs cells slots ls hP hD hS hl hc hs
  obtain ⟨k0, hk0⟩ := cw_objC (T := T) hP hL0 hx hr0 hr1
  have hFc : ∀ z, va_A (CW T S L) H.size z → A z := fun z h => by
    rcases h with ⟨k, e, h⟩ | h
    · exact hD.2 k _ h
    · exact C.2.2.2.2.2.2.1 z (Nat.le_trans hS.1 h)
  refine va_callq (va_runU (As := As) (rest := st) ⟨C.1, C.2.1, C.2.2.1, C.2.2.2.1, C.2.2.2.2.1⟩ (hM H.size L hL0 hw) cw ⟨CB_blind, va_recv C.2.2.2.2.2.1 hP hcl hk0, fun U hU hW => ⟨rfl, by rw [hU], by rw [hU]; exact hP, va_K.moved hW.alike C.2.2.2.2.2.1, hD.weaken (fun _ _ _ _ => trivial), GE_call E hS hU hW hFc⟩⟩ rfl hn hl.1 rfl (lv_room hroom) hdg ⟨by omega, by omega⟩) hS (fun z _ h => hFc z h) hFc (fun v u t H1 locs1 ht hvm hw9 hB hz1 hk1 hS1 => ?_)
  obtain ⟨⟨hp1, hp2⟩, hx1, hw1, hL1⟩ := hw9
  obtain ⟨S1, L1⟩ := u
  obtain ⟨hP1, hK1, hD1⟩ := hB
  rw [ht] at hP1
  exact kk v S1 L1 hx1 hw1 hL1 hp2 hp1 H1 locs1 (cells + mc) (slots + ms) ls hP1 (hD1.weaken (fun _ z _ h => hFc z.1 h)) hS1 hl (by omega) (by omega)
theorem gc_callqSU (C : GC p s m args meth c cc own Ts nL D A (zty T)) {y : MethodName} {bytes : ByteArray} {maxL n idx mc ms : Nat} {ret : Option FieldType} {wsY : List Cond} {rmY : Room} {host : String} {kd : Nat} {post : Option Nat → HS → Prop} (E : GE T A s) (hw : wt S) (hL0 : hL S L) {kr Nr : Nat} {Cn : String} {Tn : u_T} (hx : hK S x = kr) (hr0 : kr ≠ 0) (hr1 : kr < 20) (hcl : vwCl[clx kr]? = some (Cn, Tn, Nr)) (As : List Value) {stk : List Value} (hst : stk = As.reverse ++ .ref x :: st) (hM : CMq l y wsY rmY D T (.ref x :: As) S mc ms kd post) (cw : va_CS R s args own idx y bytes maxL ret wsY { rmY with cells := mc, slots := ms } mc ms n) (hn : As.length = n) (hroom : (st.map fun v => v.category).sum ≤ 8) (hKC : KC ≤ R.cells) (hKS : KS ≤ R.slots) (hkc : mc ≤ kc) (hks : ms ≤ ks) (hdg : decode cc pc = .ok (.invokespecial idx, 3)) (kk : ∀ (v : Option Nat) (S1 : HS) (L1 : List Nat), ext S S1 → wt S1 → hL S1 L1 → (∀ b, v = some b → hK S1 b = kd) → post v S1 → GW p l e R s m args below meth c D A nL KC KS Q (CW T S1 L1) (kc - mc) (ks - ms) (pc + 3) lv (va_rf v :: st)) : GW p l e R s m args below meth c D A nL KC KS Q (CW T S L) kc ks pc lv stk := by
  subst hst
  intro H locs cells slots ls hP hD hS hl hc hs
  obtain ⟨k0, hk0⟩ := cw_objC (T := T) hP hL0 hx hr0 hr1
  have hFc : ∀ z, va_A (CW T S L) H.size z → A z := fun z h => by
    rcases h with ⟨k, e, h⟩ | h
    · exact hD.2 k _ h
    · exact C.2.2.2.2.2.2.1 z (Nat.le_trans hS.1 h)
  refine va_callq (va_runSU (C.2.2.2.2.2.1.1 (clx kr) _ hcl).2 (As := As) (rest := st) ⟨C.1, C.2.1, C.2.2.1, C.2.2.2.1, C.2.2.2.2.1⟩ (hM H.size L hL0 hw) cw ⟨CB_blind, va_recv C.2.2.2.2.2.1 hP hcl hk0, fun U hU hW => ⟨rfl, by rw [hU], by rw [hU]; exact hP, va_K.moved hW.alike C.2.2.2.2.2.1, hD.weaken (fun _ _ _ _ => trivial), GE_call E hS hU hW hFc⟩⟩ rfl hn hl.1 rfl (lv_room hroom) hdg ⟨by omega, by omega⟩) hS (fun z _ h => hFc z h) hFc (fun v u t H1 locs1 ht hvm hw9 hB hz1 hk1 hS1 => ?_)
  obtain ⟨⟨hp1, hp2⟩, hx1, hw1, hL1⟩ := hw9
  obtain ⟨S1, L1⟩ := u
  obtain ⟨hP1, hK1, hD1⟩ := hB
  rw [ht] at hP1
  exact kk v S1 L1 hx1 hw1 hL1 hp2 hp1 H1 locs1 (cells + mc) (slots + ms) ls hP1 (hD1.weaken (fun _ z _ h => hFc z.1 h)) hS1 hl (by omega) (by omega)
theorem w0_U {R : Room} {s : State} {args : Array Value} {own B : String} {idx : Nat} {y : MethodName} {bytes : ByteArray} {maxL : Nat} {ret : Option FieldType} {cM : Cond} {rm : Room} {mc ms : Nat} (n : Nat) (hts : ∀ w ∈ cM :: W0, w.before args s = true) (h1 : Cond.methodLink own idx y ∈ W0) (h0 : Cond.sameMethod y.cls y.cls y.name y.desc ∈ W0) (h2 : Cond.instanceMethod y ∈ W0) (h3 : Cond.selects B y y ∈ W0) (h4 : Cond.initialized y.cls ∈ W0) (h5 : Cond.code y bytes maxL ret ∈ W0) (hrc : rm.cells = mc) (hrs : rm.slots = ms) (hd : y.cls ≠ "java/lang/invoke/MethodHandle" ∧ y.cls ≠ "java/lang/invoke/VarHandle" ∧ (parseMethodDescriptor y.desc).map (fun d => d.parameters.length) = some n) (hR : rm.frames + 1 ≤ R.frames ∧ 8 + (maxL + 11) + rm.locals ≤ R.locals) : va_CU R s args own B y.cls idx y y bytes maxL ret (Cond.code y bytes maxL ret :: W0) rm mc ms n := by
  refine va_cwU n hts (fun w h => ?_) rfl hrc hrs rfl hd hR
  have hm : w ∈ W0 := by
    simp only [va_wsU, List.cons_append, List.nil_append, List.mem_cons] at h
    rcases h with rfl | rfl | rfl | rfl | rfl | rfl | h
    · exact h1
    · exact h0
    · exact h3
    · exact h2
    · exact h4
    · exact h5
    · exact h
  exact ⟨List.mem_cons_of_mem _ hm, w0_good hm⟩
theorem w0_SU {R : Room} {s : State} {args : Array Value} {own : String} {idx : Nat} {y : MethodName} {bytes : ByteArray} {maxL : Nat} {ret : Option FieldType} {cM : Cond} {rm : Room} {mc ms : Nat} (n : Nat) (hts : ∀ w ∈ cM :: W0, w.before args s = true) (h1 : Cond.methodLink own idx y ∈ W0) (h0 : Cond.sameMethod y.cls y.cls y.name y.desc ∈ W0) (h2 : Cond.instanceMethod y ∈ W0) (h3 : Cond.superclass own y.cls ∈ W0) (h4 : Cond.initialized y.cls ∈ W0) (h5 : Cond.code y bytes maxL ret ∈ W0) (hrc : rm.cells = mc) (hrs : rm.slots = ms) (hd : y.name ≠ "<init>" ∧ (parseMethodDescriptor y.desc).map (fun d => d.parameters.length) = some n) (hR : rm.frames + 1 ≤ R.frames ∧ 8 + (maxL + 11) + rm.locals ≤ R.locals) : va_CS R s args own idx y bytes maxL ret (Cond.code y bytes maxL ret :: W0) rm mc ms n := by
  refine va_cwSU n hts (fun w h => ?_) rfl hrc hrs hd hR
  have hm : w ∈ W0 := by
    simp only [va_wsSU, List.cons_append, List.nil_append, List.mem_cons] at h
    rcases h with rfl | rfl | rfl | rfl | rfl | rfl | h
    · exact h1
    · exact h0
    · exact h3
    · exact h2
    · exact h4
    · exact h5
    · exact h
  exact ⟨List.mem_cons_of_mem _ hm, w0_good hm⟩
theorem gt_getR (C : GC p s m args meth c cc own Ts nL D A (zty T)) (hw : wt S) {kd N idx i : Nat} {Cn : String} {Tn : u_T} (hin : ∀ w ∈ u_ws Cn Tn N, w ∈ Ts) (hL0 : hL S L) (hx : hK S x = kd) (h0 : kd ≠ 0) (h1 : kd < 20) (hcl : vwCl[clx kd]? = some (Cn, Tn, N)) (k : Nat) (hk : k < N) {rf : String} (hlink : (Cond.fieldLink own idx rf (Tn k).2.1 (Tn k).2.2.1).before args s = true) (hsm : ∀ z, s.fieldFound? (Tn k).1 (Tn k).2.1 (Tn k).2.2.1 = some z → s.fieldFound? rf (Tn k).2.1 (Tn k).2.2.1 = some z) (hb : (shp kd)[k]? = some true) (hi : 20 * kd + k = i) (hdg : decode cc pc = .ok (.getfield idx, 3)) (kk : ∀ o : Option Nat, o = hR S i x → (∀ b, o = some b → hK S b = tyf i) → GW p l e R s m args below meth c D A nL KC KS Q (CW T S L) kc ks (pc + 3) lv (va_rf o :: st)) : GW p l e R s m args below meth c D A nL KC KS Q (CW T S L) kc ks pc lv (.ref x :: st) := by
  intro H locs cells slots ls hP hD hS hl hc hs
  obtain ⟨k0, hk0⟩ := cw_objC (T := T) hP hL0 hx h0 h1
  have hv := fsl_get (S := S) (a := x) (kd := kd) (shp kd) 0 k hb
  rw [Nat.zero_add, hi] at hv
  exact va_get (D := D) (ci := clx kd) (v := va_rf (hR S i x)) (C := Cn) (T := Tn) (N := N) C.1 C.2.1 C.2.2.2.2.1 hin C.2.2.2.1 C.2.2.2.2.2.1 hP k0 hk0 hcl k hk hlink hsm hv hdg (kk _ rfl (fun b hb => hw.2.1 i x b hb) H locs cells slots ls hP hD hS hl hc hs)
theorem gt_putR (C : GC p s m args meth c cc own Ts nL D A (zty T)) {kd N idx i : Nat} {Cn : String} {Tn : u_T} (hin : ∀ w ∈ u_ws Cn Tn N, w ∈ Ts) (hL0 : hL S L) (hx : hK S x = kd) (h0 : kd ≠ 0) (h1 : kd < 20) (hcl : vwCl[clx kd]? = some (Cn, Tn, N)) (k : Nat) (hk : k < N) {rf : String} (hlink : (Cond.fieldLink own idx rf (Tn k).2.1 (Tn k).2.2.1).before args s = true) (hsm : ∀ z, s.fieldFound? (Tn k).1 (Tn k).2.1 (Tn k).2.2.1 = some z → s.fieldFound? rf (Tn k).2.1 (Tn k).2.2.1 = some z) (tyn : Nat → FieldType) (htyn : ∀ k, k < N → parseFieldDescriptor (Tn k).2.2.1 = some (tyn k)) (hnm : ∀ a, a < N → ∀ b, b < N → a ≠ b → (Tn a).2.1 ≠ (Tn b).2.1) (hb : (shp kd)[k]? = some true) (hi : 20 * kd + k = i) (hfin : (Tn k).2.2.2 = false) (o : Option Nat) (hn : narrow (tyn k) (va_rf o) = va_rf o) (hfit : fits (tyn k) (va_rf o) = true) (hdg : decode cc pc = .ok (.putfield idx, 3)) (kk : GW p l e R s m args below meth c D A nL KC KS Q (CW T (putR S i x o) L) kc ks (pc + 3) lv st) : GW p l e R s m args below meth c D A nL KC KS Q (CW T S L) kc ks pc lv (va_rf o :: .ref x :: st) := by
  intro H locs cells slots ls hP0 hD0 hS hl hc hs
  have hG := cw_gd hP0
  have hP := hP0
  have hD := hD0
  rw [cw_eq hG] at hP hD
  obtain ⟨k0, hk0⟩ := cw_obj hG hL0 hx h0 h1
  have hm := cw_mem hG hL0 hx h0 (Or.inl (by omega))
  have hlen : k < (fsl S x kd 0 (shp kd)).length := by rw [fsl_len]; exact (List.getElem?_eq_some_iff.mp hb).1
  refine va_put (D := D) (ci := clx kd) (v := va_rf o) (ty := tyn k) (C := Cn) (T := Tn) (N := N) C.1 C.2.1 C.2.2.2.2.1 hin tyn htyn hnm C.2.2.2.1 C.2.2.2.2.2.1 hP hD hS k0 hk0 hcl k hk hlink hsm hfin (htyn k hk) hn hfit hlen hdg (fun H1 locs1 hP1 hD1 hS1 => ?_)
  have e := pl_set (g := wF T (putR S i x o)) (e := .inr (clx kd, (fsl S x kd 0 (shp kd)).set k (va_rf o))) hD hm (by rw [wF_obj hx h1]; exact hk0) (by
    rw [wF_obj (kd := kd) (show hK (putR S i x o) x = kd from hx) h1, ← hi]
    have h9 := fsl_setR (S := S) (a := x) (kd := kd) (v := o) (shp kd) 0 k hb
    rw [Nat.zero_add] at h9
    rw [h9]) (fun b hb9 => wF_off rfl rfl (fun j => rfl) (fun j => up2_a _ _ _ _ hb9) rfl rfl)
  rw [e, ← cw_eq (T := T) (S := putR S i x o) (L := L) (show okG T (putR S i x o) from hG)] at hP1 hD1
  exact kk H1 locs1 cells slots ls hP1 hD1 hS1 hl hc hs
theorem gc_callvS (C : GC p s m args meth c cc own Ts nL D A (zty T)) {y : MethodName} {bytes : ByteArray} {maxL n idx mc ms : Nat} {ret : Option FieldType} {wsY : List Cond} {rmY : Room} {host : String} {post : HS → Prop} (E : GE T A s) (hw : wt S) (hL0 : hL S L) (As : List Value) {stk : List Value} (hst : stk = As.reverse ++ st) (hM : CMv l y wsY rmY D T As S mc ms post) (cw : CallB R s args own idx y bytes maxL ret wsY { rmY with cells := mc, slots := ms } mc ms n ∧ (Cond.static y).before args s = true) (hn : As.length = n) (hroom : (st.map fun v => v.category).sum ≤ 8) (hKC : KC ≤ R.cells) (hKS : KS ≤ R.slots) (hkc : mc ≤ kc) (hks : ms ≤ ks) (hdg : decode cc pc = .ok (.invokestatic idx, 3)) (kk : ∀ (S1 : HS) (L1 : List Nat), ext S S1 → wt S1 → hL S1 L1 → post S1 → GW p l e R s m args below meth c D A nL KC KS Q (CW T S1 L1) (kc - mc) (ks - ms) (pc + 3) lv st) : GW p l e R s m args below meth c D A nL KC KS Q (CW T S L) kc ks pc lv stk := by
  subst hst
  intro H locs cells slots ls hP hD hS hl hc hs
  have hFc : ∀ z, va_A (CW T S L) H.size z → A z := fun z h => by
    rcases h with ⟨k, e, h⟩ | h
    · exact hD.2 k _ h
    · exact C.2.2.2.2.2.2.1 z (Nat.le_trans hS.1 h)
  refine va_callv (va_runS (As := As) (rest := st) ⟨C.1, C.2.1, C.2.2.1, C.2.2.2.1, C.2.2.2.2.1⟩ (hM H.size L hL0 hw) cw ⟨CB_blind, fun U hU hW => ⟨rfl, by rw [hU], by rw [hU]; exact hP, va_K.moved hW.alike C.2.2.2.2.2.1, hD.weaken (fun _ _ _ _ => trivial), GE_call E hS hU hW hFc⟩⟩ rfl hn hl.1 rfl (lv_room hroom) hdg ⟨by omega, by omega⟩) hS (fun z _ h => hFc z h) hFc (fun u t H1 locs1 ht hvm hw9 hB hz1 hk1 hS1 => ?_)
  obtain ⟨hp1, hx1, hw1, hL1⟩ := hw9
  obtain ⟨S1, L1⟩ := u
  obtain ⟨hP1, hK1, hD1⟩ := hB
  rw [ht] at hP1
  exact kk S1 L1 hx1 hw1 hL1 hp1 H1 locs1 (cells + mc) (slots + ms) ls hP1 (hD1.weaken (fun _ z _ h => hFc z.1 h)) hS1 hl (by omega) (by omega)
end SBR
theorem gM_0 {m q : Nat} (h : q ≤ m) : gM m q = m := if_pos h
theorem gM_1 {m q : Nat} (h : m < q) (h2 : q ≤ 2 * m + 2) : gM m q = 2 * m + 2 := by
  unfold gM
  rw [if_neg (by omega), if_pos h2]
theorem gM_ge {m q : Nat} (h : 16 ≤ m) (hq : q ≤ 200) : m ≤ gM m q ∧ q ≤ gM m q ∧ (m ≤ 400 → gM m q ≤ 400) := by
  unfold gM
  repeat' split
  all_goals omega
theorem gM_tr {m q1 q2 : Nat} (h : 16 ≤ m) (h1 : q1 ≤ q2) (h2 : q2 ≤ 200) : gM (gM m q1) q2 = gM m q2 := by
  have e : (q1 ≤ m ∧ gM m q1 = m) ∨ (m < q1 ∧ q1 ≤ 2 * m + 2 ∧ gM m q1 = 2 * m + 2) ∨ (2 * m + 2 < q1 ∧ q1 ≤ 4 * m + 6 ∧ gM m q1 = 4 * m + 6) ∨ (4 * m + 6 < q1 ∧ q1 ≤ 8 * m + 14 ∧ gM m q1 = 8 * m + 14) ∨ (8 * m + 14 < q1 ∧ gM m q1 = 16 * m + 30) := by
    unfold gM
    repeat' split
    all_goals omega
  rcases e with ⟨e1, e2⟩ | ⟨e1, e3, e2⟩ | ⟨e1, e3, e2⟩ | ⟨e1, e3, e2⟩ | ⟨e1, e2⟩
  · rw [e2]
  all_goals
    rw [e2]
    unfold gM
    repeat' split
    all_goals omega
theorem pC_le {m m1 : Nat} (h : m ≤ m1) : pC m1 ≤ pC m := by
  unfold pC
  repeat' split
  all_goals omega
theorem pS_le {m m1 : Nat} (h : m ≤ m1) : pS m1 ≤ pS m := by
  unfold pS
  repeat' split
  all_goals omega
/-- one step of growing is paid -/
theorem gM_pay {m : Nat} (h : 16 ≤ m) (h2 : m < 200) : 1 ≤ pC m - pC (2 * m + 2) ∧ 2 * m + 2 ≤ pS m - pS (2 * m + 2) := by
  unfold pC pS
  repeat' split
  all_goals omega
theorem SbO.C {S : HS} {x : Nat} {sh : List Int32} (h : SbO S x sh) : ∃ r, hR S 240 x = some r ∧ hK S r = 20 ∧ hN S r = sbC S x ∧ (sh.length ≤ sbC S x ∧ 16 ≤ sbC S x ∧ sbC S x ≤ 400) ∧ (∀ j, ∃ c : Nat, c < 128 ∧ hA S r j = nI c) ∧ ∀ j y, sh[j]? = some y → hA S r j = y := by
  obtain ⟨_, _, _, _, r, h1, h2, h3, h4, h5⟩ := h
  have e : sbC S x = hN S r := by unfold sbC; rw [h1]; rfl
  exact ⟨r, h1, h2, e.symm, by rw [e]; exact h3, h4, h5⟩
theorem sbT.rf {S : HS} {x : Nat} {sh : List Int32} (h : SbO S x sh) : sbT S S x sh sh := by
  obtain ⟨r, h1, _, _, h3, _⟩ := h.C
  exact ⟨h, frM.rf, (gM_0 h3.1).symm, r, h1, Or.inr h1⟩
theorem sbT.fr {S S1 S2 : HS} {x : Nat} {sh sh1 : List Int32} {N : Nat → Prop} (h : sbT S S1 x sh sh1) (he : ext S S1) (g : frM S1 S2 N) (hN : ∀ b, hK S b ≠ 0 → N b → sbM S1 x b) : frM S S2 (sbM S x) := h.2.1.nw g (fun b hb z => by
  rcases hN b hb z with z | z
  · exact Or.inl z
  · obtain ⟨r, r1, r2⟩ := h.2.2.2
    have e := Option.some.inj (r1.symm.trans z)
    subst e
    rcases r2 with r2 | r2
    · exact absurd r2 hb
    · exact Or.inr r2)
theorem sbT.tr {S S1 S2 : HS} {x : Nat} {sh sh1 sh2 : List Int32} (h0 : SbO S x sh) (h : sbT S S1 x sh sh1) (he : ext S S1) (g : sbT S1 S2 x sh1 sh2) (hl : sh1.length ≤ sh2.length) : sbT S S2 x sh sh2 := by
  obtain ⟨r, h1, _, _, h3, _⟩ := h0.C
  refine ⟨g.1, h.fr he g.2.1 (fun _ _ z => z), ?_, ?_⟩
  · rw [g.2.2.1, h.2.2.1, gM_tr h3.2.1 hl g.1.2.2.2.1]
  · obtain ⟨r2, a1, a2⟩ := g.2.2.2
    refine ⟨r2, a1, ?_⟩
    rcases a2 with a2 | a2
    · exact Or.inl (k0_of he a2)
    · obtain ⟨r1, b1, b2⟩ := h.2.2.2
      rw [← Option.some.inj (b1.symm.trans a2)]
      exact b2
/-- the budget over two steps -/
theorem sbB.sp {S : HS} {x q1 q2 mc ms : Nat} {sh : List Int32} (h0 : SbO S x sh) (hb : sbB S x q2 mc ms) (h1 : q1 ≤ q2) (h2 : q2 ≤ 200) : sbB S x q1 (pC (sbC S x) - pC (gM (sbC S x) q1)) (pS (sbC S x) - pS (gM (sbC S x) q1)) ∧ (pC (sbC S x) - pC (gM (sbC S x) q1) ≤ mc ∧ pS (sbC S x) - pS (gM (sbC S x) q1) ≤ ms) ∧ ∀ S1 sh1, sbT S S1 x sh sh1 → sh1.length = q1 → sbB S1 x q2 (mc - (pC (sbC S x) - pC (gM (sbC S x) q1))) (ms - (pS (sbC S x) - pS (gM (sbC S x) q1))) := by
  obtain ⟨r, _, _, _, h3, _⟩ := h0.C
  have e := gM_tr h3.2.1 h1 h2
  have g1 := gM_ge h3.2.1 (Nat.le_trans h1 h2)
  have g2 := gM_ge (m := gM (sbC S x) q1) (q := q2) (by omega) h2
  rw [e] at g2
  have c1 := pC_le g1.1
  have c2 := pC_le g2.1
  have s1 := pS_le g1.1
  have s2 := pS_le g2.1
  unfold sbB at hb ⊢
  refine ⟨⟨Nat.le_refl _, Nat.le_refl _⟩, ⟨by omega, by omega⟩, fun S1 sh1 t tl => ?_⟩
  rw [t.2.2.1, tl, e]
  omega

end S_CAK
