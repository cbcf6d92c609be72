section S_C1E
abbrev ws_X2_total : List Cond := Cond.code yX2_total cX2_total 1 (some .int) :: W0
abbrev rm_X2_total : Room := ({ frames := 0, cells := 0, slots := 0, locals := 0 } : Room)
def wp_X2_total (P : Int32 → HS → Prop) (x0 : Nat) (S : HS) : Prop := P ((((hI S 71 x0) + (hI S 74 x0)) + (hI S 76 x0)) + (hI S 77 x0)) S
set_option maxRecDepth 100000 in
set_option maxHeartbeats 4000000 in
theorem t_X2_total {p : Program} {l : Launch} {e : Env} {s : State} {m : MethodId} {args : Array Value} {below : List Frame} {meth : Method} {c : Code} {D : va_G} {A : Nat → Prop} {T : Nat → ClassId} (C : GC p s m args meth c cX2_total "FreightRater$Rating" (ws_X2_total) 1 D A (zty T)) (E : GE T A s) (hr : meth.sig.returnType = (some .int)) (P : Int32 → HS → Prop) : ∀ (x0 : Nat) (S0 S : HS) (L : List Nat), S0 = S → wt S → hL S L → (hK S x0 = 3) → wp_X2_total P x0 S → GW p l e { rm_X2_total with cells := 0, slots := 0 } s m args below meth c D A 1 0 0 (MQ below (va_Qi (fun v (u : HS × List Nat) => P v u.1 ∧ CO S0 u) (CE D T A) A) args s 0 0 A) (CW T S L) 0 0 0 [(0, .ref x0)] [] := by
  have hW : ∀ {w : Cond}, w ∈ W0 → w.before args s = true := fun h => C.2.2.2.2.1 _ (List.mem_cons_of_mem _ h)
  intro x0 S0 S L hS0 hw hL hx0 h
  have he : ext S0 S := by rw [hS0]; exact ext_rf
  unfold wp_X2_total at h
  refine g_aload_n C dX2_total_0 rfl 0 rfl ?_
  refine gc_getI C iwx_X2 hL hx0 (by decide) (by decide) rfl 11 (by decide) (hW kw_156) rfl rfl rfl dX2_total_1 ?_
  refine g_aload_n C dX2_total_4 rfl 0 rfl ?_
  refine gc_getI C iwx_X2 hL hx0 (by decide) (by decide) rfl 14 (by decide) (hW kw_162) rfl rfl rfl dX2_total_5 ?_
  refine g_iadd C dX2_total_8 ?_
  refine g_aload_n C dX2_total_9 rfl 0 rfl ?_
  refine gc_getI C iwx_X2 hL hx0 (by decide) (by decide) rfl 16 (by decide) (hW kw_166) rfl rfl rfl dX2_total_10 ?_
  refine g_iadd C dX2_total_13 ?_
  refine g_aload_n C dX2_total_14 rfl 0 rfl ?_
  refine gc_getI C iwx_X2 hL hx0 (by decide) (by decide) rfl 17 (by decide) (hW kw_168) rfl rfl rfl dX2_total_15 ?_
  refine g_iadd C dX2_total_18 ?_
  exact gc_iret C hw hL he hr dX2_total_19 h
theorem c_X2_total (l : Launch) (D : va_G) (T : Nat → ClassId) (x0 : Nat) (S : HS) (hx0 : hK S x0 = 3) (P : Int32 → HS → Prop) (h : wp_X2_total P x0 S) : CMi l yX2_total (ws_X2_total) rm_X2_total D T [.ref x0] S 0 0 P := gc_meti (by decide) rfl rfl (Nat.le_of_ble_eq_true rfl) (fun p e s m args below meth c A L C E hnm hr hw hL => t_X2_total C E   hr P x0 S S L rfl hw hL hx0 h)
/-- the members of a group, ascending -/
def memL (g : Nat) : Nat → Nat → List Nat
  | 0, _ => []
  | k + 1, s => if g.testBit s = true then s :: memL g k (s + 1) else memL g k (s + 1)
/-- only int fields of one object change -/
def c3 (S S1 : HS) (x : Nat) (L : List Nat) : Prop := hK S1 = hK S ∧ hN S1 = hN S ∧ hR S1 = hR S ∧ hA S1 = hA S ∧ hB S1 = hB S ∧ ∀ i a, (a ≠ x ∨ i ∉ L) → hI S1 i a = hI S i a
/-- a rating and its two rows may change, nothing else -/
def frR (S S1 : HS) (x : Nat) : Prop := hK S1 = hK S ∧ hN S1 = hN S ∧ hR S1 = hR S ∧ (∀ i a, a ≠ x → hI S1 i a = hI S i a) ∧ (∀ a, hR S 62 x ≠ some a → hA S1 a = hA S a) ∧ ∀ a, hR S 61 x ≠ some a → hB S1 a = hB S a
/-- a rating's object beside a state's -/
def RtO (S : HS) (M : Nat → Prop) (x y : Nat) : Prop := hK S x = 3 ∧ M x ∧ ∃ mb nb, hR S 61 x = some mb ∧ hR S 62 x = some nb ∧ hK S mb = 27 ∧ hN S mb = 10 ∧ hK S nb = 22 ∧ hN S nb = 10 ∧ M mb ∧ M nb ∧ ¬ hR S 142 y = some mb ∧ ¬ hR S 144 y = some nb ∧ ¬ hR S 145 y = some nb
/-- the members stand in the rating's rows -/
def RtM (S : HS) (M : Nat → Prop) (x : Nat) (μ : Nat → Int32) (L : List Nat) : Prop := hK S x = 3 ∧ L.length ≤ 10 ∧ hI S 60 x = nI L.length ∧ ∃ mb nb, hR S 61 x = some mb ∧ hR S 62 x = some nb ∧ hK S mb = 27 ∧ hN S mb = 10 ∧ hK S nb = 22 ∧ hN S nb = 10 ∧ ∀ i, i < L.length → gl L i < 10 ∧ hA S nb i = nI (gl L i) ∧ ∃ z, hB S mb i = some z ∧ RelS S M z μ (gl L i)
/-- the first member to which a reason applies -/
def fiX (μ : Nat → Int32) (gv rs g : Nat) (L : List Nat) : Nat → Nat → Option Nat
  | 0, _ => none
  | k + 1, i => if ¬ rsF μ gv rs g (gl L i) = 0 then some (gl L i) else fiX μ gv rs g L k (i + 1)
def gwX (μ : Nat → Int32) (d : Int32) (L : List Nat) : Nat → Nat → Int32 → Int32 → Int32 → Int32 → Int32 → Int32 × Int32 × Int32 × Int32 × Int32
  | 0, _, a, b, c, e, h => (a, b, c, e, h)
  | k + 1, i, a, b, c, e, h => gwX μ d L k (i + 1) (a + realF μ (gl L i)) (b + dimF μ (gl L i) d) (c + μ (14 + 26 * gl L i + 4)) (mxF e (longF μ (gl L i))) (h ||| μ (14 + 26 * gl L i + 2))
/-- the members' handlings but one's -/
def orX (μ : Nat → Int32) (L : List Nat) (i : Nat) : Nat → Nat → Int32 → Int32
  | 0, _, h => h
  | k + 1, j, h => orX μ L i k (j + 1) (if j = i then h else h ||| μ (14 + 26 * gl L j + 2))
theorem c3.rf {S : HS} {x : Nat} {L : List Nat} : c3 S S x L := ⟨rfl, rfl, rfl, rfl, rfl, fun _ _ _ => rfl⟩
theorem c3.up {S S1 : HS} {x : Nat} {L : List Nat} (h : c3 S S1 x L) {i : Nat} (hi : i ∈ L) (v : Int32) : c3 S (putI S1 i x v) x L := ⟨h.1, h.2.1, h.2.2.1, h.2.2.2.1, h.2.2.2.2.1, fun j a hj => by
  show up2 (hI S1) i x v j a = hI S j a
  rw [show up2 (hI S1) i x v j a = hI S1 j a from by
    unfold up2
    rw [if_neg]
    rintro ⟨e1, e2⟩
    rcases hj with hj | hj
    · exact hj e2
    · exact hj (by rw [e1]; exact hi)]
  exact h.2.2.2.2.2 j a hj⟩
theorem c3.tr {S S1 S2 : HS} {x : Nat} {L L1 L2 : List Nat} (h : c3 S S1 x L1) (h2 : c3 S1 S2 x L2) (s1 : ∀ i ∈ L1, i ∈ L) (s2 : ∀ i ∈ L2, i ∈ L) : c3 S S2 x L := ⟨h2.1.trans h.1, h2.2.1.trans h.2.1, h2.2.2.1.trans h.2.2.1, h2.2.2.2.1.trans h.2.2.2.1, h2.2.2.2.2.1.trans h.2.2.2.2.1, fun i a hi => (h2.2.2.2.2.2 i a (hi.imp id (fun z e => z (s2 i e)))).trans (h.2.2.2.2.2 i a (hi.imp id (fun z e => z (s1 i e))))⟩
theorem c3.mn {S S1 : HS} {x : Nat} {L L1 : List Nat} (h : c3 S S1 x L1) (s1 : ∀ i ∈ L1, i ∈ L) : c3 S S1 x L := h.tr c3.rf s1 (fun _ h => h)
theorem c3.fr {S S1 : HS} {x : Nat} {L : List Nat} (h : c3 S S1 x L) : frR S S1 x := ⟨h.1, h.2.1, h.2.2.1, fun i a ha => h.2.2.2.2.2 i a (Or.inl ha), fun a _ => by rw [h.2.2.2.1], fun a _ => by rw [h.2.2.2.2.1]⟩
theorem frR.tr {S S1 S2 : HS} {x : Nat} (h : frR S S1 x) (h2 : frR S1 S2 x) : frR S S2 x := ⟨h2.1.trans h.1, h2.2.1.trans h.2.1, h2.2.2.1.trans h.2.2.1, fun i a ha => (h2.2.2.2.1 i a ha).trans (h.2.2.2.1 i a ha), fun a ha => (h2.2.2.2.2.1 a (by rw [h.2.2.1]; exact ha)).trans (h.2.2.2.2.1 a ha), fun a ha => (h2.2.2.2.2.2 a (by rw [h.2.2.1]; exact ha)).trans (h.2.2.2.2.2 a ha)⟩
theorem c3.I {S S1 : HS} {x : Nat} {L : List Nat} (h : c3 S S1 x L) {i : Nat} (hi : i ∉ L) : hI S1 i x = hI S i x := h.2.2.2.2.2 i x (Or.inr hi)
theorem putI_s (S : HS) (i a : Nat) (v : Int32) : hI (putI S i a v) i a = v := up2_self _ _ _ _
theorem putI_i (S : HS) {i j : Nat} (a : Nat) (v : Int32) (h : j ≠ i) : hI (putI S i a v) j a = hI S j a := up2_i _ _ _ _ h
/-- what a rating's change leaves: everything that is not a rating's -/
theorem RelT.fr {S S1 : HS} {M : Nat → Prop} {x t n : Nat} {op : Prop} (h : RelT S M t n op) (hf : frR S S1 x) (hx : hK S x = 3) : RelT S1 M t n op := by
  obtain ⟨h1, h2, h3, h4, h5, h6, h7, h8⟩ := h
  obtain ⟨f1, f2, f3, f4, f5, f6⟩ := hf
  have e : ∀ i, hI S1 i t = hI S i t := fun i => f4 i t (fun z => by rw [z, hx] at h1; exact absurd h1 (by decide))
  exact ⟨by rw [f1]; exact h1, h2, fun z => by rw [e]; exact h3 z, fun z => by rw [e]; exact h4 z, by rw [e]; exact h5, by rw [e]; exact h6, fun z => by rw [e]; exact h7 z, by rw [e]; exact h8⟩
theorem RelA.fr {S S1 : HS} {M : Nat → Prop} {x y v a : Nat} {μ : Nat → Int32} (h : RelA S M y μ v a) (hf : frR S S1 x) (hx : hK S x = 3) (hMb : ∀ b, hR S 61 x = some b → M b) : RelA S1 M y μ v a := by
  obtain ⟨h1, h2, h3, h4, h5, h6, al, ar, g1, g2, g3, g4, g5, g6, g7, g8, g9⟩ := h
  have hf0 := hf
  obtain ⟨f1, f2, f3, f4, f5, f6⟩ := hf
  have ne : ∀ b k, hK S b = k → k ≠ 3 → b ≠ x := fun b k hk h0 z => h0 (by rw [← hk, z]; exact hx)
  have ey : ∀ i, hI S1 i y = hI S i y := fun i => f4 i y (ne y 1 h1 (by decide))
  refine ⟨by rw [f1]; exact h1, h2, by rw [ey]; exact h3, by rw [ey]; exact h4, by rw [ey]; exact h5, by rw [ey]; exact h6, al, ar, by rw [f3]; exact g1, by rw [f1]; exact g2, g3, by rw [f3]; exact g4, by rw [f1]; exact g5, g6, by rw [f4 262 al (ne al 13 g2 (by decide))]; exact g7, by rw [f2]; exact g8, fun j hj => ?_⟩
  obtain ⟨t, t1, t2⟩ := g9 j hj
  exact ⟨t, by rw [f6 ar (fun z => g6 (hMb ar z))]; exact t1, t2.fr hf0 hx⟩
theorem fz.fr {S S1 : HS} {M : Nat → Prop} {x b k n : Nat} (h : fz S M b k n) (hf : frR S S1 x) : fz S1 M b k n := ⟨by rw [hf.1]; exact h.1, by rw [hf.2.1]; exact h.2.1, h.2.2⟩
theorem RelSc.fr {S S1 : HS} {M : Nat → Prop} {x y v z : Nat} {μ : Nat → Int32} (h : RelSc S M y μ v z) (hf : frR S S1 x) (hx : hK S x = 3) (hMn : ∀ b, hR S 62 x = some b → M b) : RelSc S1 M y μ v z := by
  obtain ⟨h1, h2, h3, h4, w, p, g1, g2, g3, g4, g5⟩ := h
  have hf0 := hf
  obtain ⟨f1, f2, f3, f4, f5, f6⟩ := hf
  have ey : ∀ i, hI S1 i y = hI S i y := fun i => f4 i y (fun z => by rw [z, hx] at h1; exact absurd h1 (by decide))
  refine ⟨by rw [f1]; exact h1, h2, by rw [ey]; exact h3, by rw [ey]; exact h4, w, p, by rw [f3]; exact g1, by rw [f3]; exact g2, g3.fr hf0, g4.fr hf0, fun i hi => ?_⟩
  rw [f5 w (fun z => g3.2.2 (hMn w z)), f5 p (fun z => g4.2.2 (hMn p z))]
  exact g5 i hi
theorem RelS.fr {S S1 : HS} {M : Nat → Prop} {x y s : Nat} {μ : Nat → Int32} (h : RelS S M y μ s) (hf : frR S S1 x) (hx : hK S x = 3) (hMn : ∀ b, hR S 62 x = some b → M b) : RelS S1 M y μ s := by
  obtain ⟨h1, h2, h3, h4, h5, h6, h7, h8, h9, h10, b, g1, g2, g3⟩ := h
  have hf0 := hf
  obtain ⟨f1, f2, f3, f4, f5, f6⟩ := hf
  have ey : ∀ i, hI S1 i y = hI S i y := fun i => f4 i y (fun z => by rw [z, hx] at h1; exact absurd h1 (by decide))
  refine ⟨by rw [f1]; exact h1, h2, by rw [ey]; exact h3, by rw [ey]; exact h4, by rw [ey]; exact h5, by rw [ey]; exact h6, by rw [ey]; exact h7, by rw [ey]; exact h8, by rw [ey]; exact h9, by rw [ey]; exact h10, b, by rw [f3]; exact g1, g2.fr hf0, fun p hp => ?_⟩
  rw [f5 b (fun z => g2.2.2 (hMn b z))]
  exact g3 p hp
theorem RelV.fr {S S1 : HS} {M : Nat → Prop} {x y v : Nat} {μ : Nat → Int32} (h : RelV S M y μ v) (hf : frR S S1 x) (hx : hK S x = 3) (hMb : ∀ b, hR S 61 x = some b → M b) (hMn : ∀ b, hR S 62 x = some b → M b) : RelV S1 M y μ v := by
  obtain ⟨⟨h1, h2, h3, h4, h5, h6, h7, h8⟩, ⟨fa, t, z, r1, r2, r3, z1, z2, z3, hh⟩, ⟨sc, r4, z4, hs⟩, ⟨ac, r5, z5, ha⟩⟩ := h
  have hf0 := hf
  obtain ⟨f1, f2, f3, f4, f5, f6⟩ := hf
  have ey : ∀ i, hI S1 i y = hI S i y := fun i => f4 i y (fun z => by rw [z, hx] at h1; exact absurd h1 (by decide))
  refine ⟨⟨by rw [f1]; exact h1, h2, by rw [ey]; exact h3, by rw [ey]; exact h4, by rw [ey]; exact h5, by rw [ey]; exact h6, by rw [ey]; exact h7, by rw [ey]; exact h8⟩, ⟨fa, t, z, by rw [f3]; exact r1, by rw [f3]; exact r2, by rw [f3]; exact r3, z1.fr hf0, z2.fr hf0, z3.fr hf0, fun i hi => ?_⟩, ⟨sc, by rw [f3]; exact r4, z4.fr hf0, fun w hw => ?_⟩, ⟨ac, by rw [f3]; exact r5, z5.fr hf0, fun a ha9 => ?_⟩⟩
  · rw [f5 fa (fun w => z1.2.2 (hMn fa w)), f5 t (fun w => z2.2.2 (hMn t w)), f5 z (fun w => z3.2.2 (hMn z w))]
    exact hh i hi
  · obtain ⟨u, u1, u2⟩ := hs w hw
    exact ⟨u, by rw [f6 sc (fun w => z4.2.2 (hMb sc w))]; exact u1, u2.fr hf0 hx hMn⟩
  · rw [f6 ac (fun w => z5.2.2 (hMb ac w))]
    rcases ha a ha9 with h | ⟨u1, u, u2, u3⟩
    · exact Or.inl h
    · exact Or.inr ⟨u1, u, u2, u3.fr hf0 hx hMb⟩
theorem RtO.m {S : HS} {M : Nat → Prop} {x y : Nat} (h : RtO S M x y) : hK S x = 3 ∧ (∀ b, hR S 61 x = some b → M b) ∧ ∀ b, hR S 62 x = some b → M b := by
  obtain ⟨h1, h2, mb, nb, r1, r2, _, _, _, _, m1, m2, _⟩ := h
  exact ⟨h1, fun b hb => by rw [r1] at hb; rw [← Option.some.inj hb]; exact m1, fun b hb => by rw [r2] at hb; rw [← Option.some.inj hb]; exact m2⟩
theorem RtO.fr {S S1 : HS} {M : Nat → Prop} {x y : Nat} (h : RtO S M x y) (hf : frR S S1 x) : RtO S1 M x y := by
  obtain ⟨f1, f2, f3, _⟩ := hf
  unfold RtO
  rw [f1, f2, f3]
  exact h
theorem RelSt.fr {S S1 : HS} {M : Nat → Prop} {x y : Nat} {μ : Nat → Int32} (h : RelSt S M y μ) (ho : RtO S M x y) (hf : frR S S1 x) : RelSt S1 M y μ := by
  obtain ⟨hx, hMb, hMn⟩ := ho.m
  obtain ⟨_, _, mb, nb, r61, r62, kmb, _, knb, _, _, _, d1, d2, d3⟩ := ho
  obtain ⟨⟨h1, h2, h3, h4, h5⟩, ⟨b, r1, k1, n1, hb⟩, ⟨c, r2, k2, n2, hc⟩, ⟨t, p, r3, r4, k3, k4, n3, n4, ht⟩⟩ := h
  have hf0 := hf
  obtain ⟨f1, f2, f3, f4, f5, f6⟩ := hf
  have ey : ∀ i, hI S1 i y = hI S i y := fun i => f4 i y (fun z => by rw [z, hx] at h1; exact absurd h1 (by decide))
  refine ⟨⟨by rw [f1]; exact h1, by rw [ey]; exact h2, by rw [ey]; exact h3, by rw [ey]; exact h4, by rw [ey]; exact h5⟩, ⟨b, by rw [f3]; exact r1, by rw [f1]; exact k1, by rw [f2]; exact n1, fun v hv => ?_⟩, ⟨c, by rw [f3]; exact r2, by rw [f1]; exact k2, by rw [f2]; exact n2, fun s hs => ?_⟩, ⟨t, p, by rw [f3]; exact r3, by rw [f3]; exact r4, by rw [f1]; exact k3, by rw [f1]; exact k4, by rw [f2]; exact n3, by rw [f2]; exact n4, fun i hi => ?_⟩⟩
  · obtain ⟨u, u1, u2⟩ := hb v hv
    refine ⟨u, ?_, u2.fr hf0 hx hMb hMn⟩
    rw [f6 b (fun z => by rw [r61] at z; rw [← Option.some.inj z, kmb] at k1; exact absurd k1 (by decide))]
    exact u1
  · obtain ⟨u, u1, u2⟩ := hc s hs
    refine ⟨u, ?_, u2.fr hf0 hx hMn⟩
    rw [f6 c (fun z => d1 (by rw [r2]; rw [r61] at z; exact z.symm))]
    exact u1
  · rw [f5 t (fun z => d2 (by rw [r3]; rw [r62] at z; exact z.symm)), f5 p (fun z => d3 (by rw [r4]; rw [r62] at z; exact z.symm))]
    exact ht i hi
theorem RtM.c3 {S S1 : HS} {M : Nat → Prop} {x : Nat} {μ : Nat → Int32} {L N : List Nat} (h : RtM S M x μ L) (hc : c3 S S1 x N) (h60 : 60 ∉ N) (hMn : ∀ b, hR S 62 x = some b → M b) : RtM S1 M x μ L := by
  obtain ⟨h1, h2, h3, mb, nb, r1, r2, k1, n1, k2, n2, hh⟩ := h
  have hf := hc.fr
  refine ⟨by rw [hc.1]; exact h1, h2, by rw [hc.I h60]; exact h3, mb, nb, by rw [hc.2.2.1]; exact r1, by rw [hc.2.2.1]; exact r2, by rw [hc.1]; exact k1, by rw [hc.2.1]; exact n1, by rw [hc.1]; exact k2, by rw [hc.2.1]; exact n2, fun i hi => ?_⟩
  obtain ⟨g1, g2, z, g3, g4⟩ := hh i hi
  exact ⟨g1, by rw [hc.2.2.2.1]; exact g2, z, by rw [hc.2.2.2.2.1]; exact g3, g4.fr hf h1 hMn⟩
theorem k_X2_total (l : Launch) (D : va_G) (T : Nat → ClassId) (x0 : Nat) (S : HS) (hx0 : hK S x0 = 3) : CMi l yX2_total (ws_X2_total) rm_X2_total D T [.ref x0] S 0 0 (fun v S1 => v = (hI S 71 x0 + hI S 74 x0 + hI S 76 x0 + hI S 77 x0) ∧ S1 = S) := c_X2_total l D T x0 S hx0 _ <|
  (by
    unfold wp_X2_total
    exact ⟨rfl, rfl⟩)
abbrev ws_X2_refuse : List Cond := Cond.code yX2_refuse cX2_refuse 3 (some .boolean) :: W0
abbrev rm_X2_refuse : Room := ({ frames := 0, cells := 0, slots := 0, locals := 0 } : Room)
def wp_X2_refuse (P : Int32 → HS → Prop) (x0 : Nat) (p0 : Int32) (p1 : Int32) (S : HS) : Prop := ∀ S2 : HS, S2 = putI S 63 x0 p0 → (∀ S8 : HS, S8 = putI S2 64 x0 p1 → (P 1 S8))
set_option maxRecDepth 100000 in
set_option maxHeartbeats 4000000 in
theorem t_X2_refuse {p : Program} {l : Launch} {e : Env} {s : State} {m : MethodId} {args : Array Value} {below : List Frame} {meth : Method} {c : Code} {D : va_G} {A : Nat → Prop} {T : Nat → ClassId} (C : GC p s m args meth c cX2_refuse "FreightRater$Rating" (ws_X2_refuse) 3 D A (zty T)) (E : GE T A s) (hr : meth.sig.returnType = (some .boolean)) (P : Int32 → HS → Prop) : ∀ (x0 : Nat) (p0 : Int32) (p1 : Int32) (S0 S : HS) (L : List Nat), S0 = S → wt S → hL S L → (hK S x0 = 3) → wp_X2_refuse P x0 p0 p1 S → GW p l e { rm_X2_refuse with cells := 0, slots := 0 } s m args below meth c D A 3 0 0 (MQ below (va_Qi (fun v (u : HS × List Nat) => P v u.1 ∧ CO S0 u) (CE D T A) A) args s 0 0 A) (CW T S L) 0 0 0 [(0, .ref x0), (1, .int p0), (2, .int p1)] [] := by
  have hW : ∀ {w : Cond}, w ∈ W0 → w.before args s = true := fun h => C.2.2.2.2.1 _ (List.mem_cons_of_mem _ h)
  intro x0 p0 p1 S0 S L hS0 hw hL hx0 h
  have he : ext S0 S := by rw [hS0]; exact ext_rf
  unfold wp_X2_refuse at h
  refine g_aload_n C dX2_refuse_0 rfl 0 rfl ?_
  refine g_iload_n C dX2_refuse_1 rfl 1 rfl ?_
  refine gc_putI C iwx_X2 hL hx0 (by decide) (by decide) rfl 3 (by decide) (hW kw_138) rfl tyX2 tyX2_ok nmX2 rfl rfl rfl rfl rfl dX2_refuse_2 ?_
  have w1 := wt_putI hw 63 p0 (k_ne hx0 (by decide))
  refine gc_nS (fun S2 eS2 => ?_)
  replace h := h S2 eS2
  have w3 : wt S2 := by rw [eS2]; exact w1
  have w4 : isL S2 L := by rw [eS2]; exact hL
  have w5 : ext S0 S2 := by rw [eS2]; exact he
  have g6 : hK S2 x0 = 3 := by rw [eS2]; exact hx0
  refine g_aload_n C dX2_refuse_5 rfl 0 rfl ?_
  refine g_iload_n C dX2_refuse_6 rfl 2 rfl ?_
  refine gc_putI C iwx_X2 w4 g6 (by decide) (by decide) rfl 4 (by decide) (hW kw_140) rfl tyX2 tyX2_ok nmX2 rfl rfl rfl rfl rfl dX2_refuse_7 ?_
  have w7 := wt_putI w3 64 p1 (k_ne g6 (by decide))
  refine gc_nS (fun S8 eS8 => ?_)
  replace h := h S8 eS8
  have w9 : wt S8 := by rw [eS8]; exact w7
  have w10 : isL S8 L := by rw [eS8]; exact w4
  have w11 : ext S0 S8 := by rw [eS8]; exact w5
  have g12 : hK S8 x0 = 3 := by rw [eS8]; exact g6
  refine g_iconst (v := 1) C dX2_refuse_10 (by decide) ?_
  exact gc_zret C vz1 w9 w10 w11 hr dX2_refuse_11 h
theorem c_X2_refuse (l : Launch) (D : va_G) (T : Nat → ClassId) (x0 : Nat) (p0 : Int32) (p1 : Int32) (S : HS) (hx0 : hK S x0 = 3) (P : Int32 → HS → Prop) (h : wp_X2_refuse P x0 p0 p1 S) : CMi l yX2_refuse (ws_X2_refuse) rm_X2_refuse D T [.ref x0, .int p0, .int p1] S 0 0 P := gc_meti (by decide) rfl rfl (Nat.le_of_ble_eq_true rfl) (fun p e s m args below meth c A L C E hnm hr hw hL => t_X2_refuse C E   hr P x0 p0 p1 S S L rfl hw hL hx0 h)
theorem k_X2_refuse (l : Launch) (D : va_G) (T : Nat → ClassId) (x0 : Nat) (p0 : Int32) (p1 : Int32) (S : HS) (hx0 : hK S x0 = 3) : CMi l yX2_refuse (ws_X2_refuse) rm_X2_refuse D T [.ref x0, .int p0, .int p1] S 0 0 (fun v S1 => (v = 1 ∧ S1 = putI (putI S 63 x0 p0) 64 x0 p1)) := c_X2_refuse l D T x0 p0 p1 S hx0 _ <|
  (by
    unfold wp_X2_refuse
    refine fun S2 e2 S8 e8 => ⟨rfl, ?_⟩
    rw [e8, e2])

end S_C1E
