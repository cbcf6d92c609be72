section S_C5E
abbrev ws_X9_addRange : List Cond := Cond.code yX9_addRange cX9_addRange 4 (some .boolean) :: W0
abbrev rm_X9_addRange : Room := ({ frames := 0, cells := 0, slots := 0, locals := 0 } : Room)
def wp_X9_addRange (P : Int32 → HS → Prop) (x0 : Nat) (p0 : Int32) (p1 : Int32) (p2 : Int32) (S : HS) : Prop := (p2 < p1 → (P 0 S)) ∧ (¬ p2 < p1 → ((999 < p2 → (P 0 S)) ∧ (¬ 999 < p2 → (((hI S 201 x0) < 12 → (∃ b5 : Nat, hR S 202 x0 = some b5 ∧ (hK S b5 = 22 → (vp_in (hI S 201 x0) (hN S b5) ∧ (∀ S9 : HS, S9 = putA S b5 (Int32.toNatClampNeg (hI S 201 x0)) p1 → (∃ b15 : Nat, hR S9 203 x0 = some b15 ∧ (hK S9 b15 = 22 → (vp_in (hI S9 201 x0) (hN S9 b15) ∧ (∀ S19 : HS, S19 = putA S9 b15 (Int32.toNatClampNeg (hI S9 201 x0)) p2 → (∃ b25 : Nat, hR S19 204 x0 = some b25 ∧ (hK S19 b25 = 22 → (vp_in (hI S19 201 x0) (hN S19 b25) ∧ (∀ S29 : HS, S29 = putA S19 b25 (Int32.toNatClampNeg (hI S19 201 x0)) p0 → (∀ S35 : HS, S35 = putI S29 201 x0 ((hI S29 201 x0) + 1) → (P 1 S35))))))))))))))) ∧ (¬ (hI S 201 x0) < 12 → (P 0 S))))))
set_option maxRecDepth 100000 in
set_option maxHeartbeats 4000000 in
theorem t_X9_addRange {p : Program} {l : Launch} {e : Env} {s : State} {m : MethodId} {args : Array Value} {below : List Frame} {meth : Method} {c : Code} {D : va_G} {A : Nat → Prop} {T : Nat → ClassId} (C : GC p s m args meth c cX9_addRange "FreightRater$Version" (ws_X9_addRange) 4 D A (zty T)) (E : GE T A s) (hr : meth.sig.returnType = (some .boolean)) (P : Int32 → HS → Prop) : ∀ (x0 : Nat) (p0 : Int32) (p1 : Int32) (p2 : Int32) (S0 S : HS) (L : List Nat), S0 = S → wt S → hL S L → (hK S x0 = 10) → wp_X9_addRange P x0 p0 p1 p2 S → GW p l e { rm_X9_addRange with cells := 0, slots := 0 } s m args below meth c D A 4 0 0 (MQ below (va_Qi (fun v (u : HS × List Nat) => P v u.1 ∧ CO S0 u) (CE D T A) A) args s 0 0 A) (CW T S L) 0 0 0 [(0, .ref x0), (1, .int p0), (2, .int p1), (3, .int p2)] [] := by
  have hW : ∀ {w : Cond}, w ∈ W0 → w.before args s = true := fun h => C.2.2.2.2.1 _ (List.mem_cons_of_mem _ h)
  intro x0 p0 p1 p2 S0 S L hS0 hw hL hx0 h
  have he : ext S0 S := by rw [hS0]; exact ext_rf
  unfold wp_X9_addRange at h
  refine g_iload_n C dX9_addRange_0 rfl 2 rfl ?_
  refine g_iload_n C dX9_addRange_1 rfl 3 rfl ?_
  refine g_icmp_gt (tgt := 21) C dX9_addRange_2 (by decide) (fun z1 => ?_) (fun z1 => ?_)
  · replace h := h.1 z1
    refine g_iconst (v := 0) C dX9_addRange_21 (by decide) ?_
    exact gc_zret C vz0 hw hL he hr dX9_addRange_22 h
  · replace h := h.2 z1
    refine g_iload_n C dX9_addRange_5 rfl 3 rfl ?_
    refine g_sipush (v := 999) C dX9_addRange_6 (by decide) ?_
    refine g_icmp_gt (tgt := 21) C dX9_addRange_9 (by decide) (fun z2 => ?_) (fun z2 => ?_)
    · replace h := h.1 z2
      refine g_iconst (v := 0) C dX9_addRange_21 (by decide) ?_
      exact gc_zret C vz0 hw hL he hr dX9_addRange_22 h
    · replace h := h.2 z2
      refine g_aload_n C dX9_addRange_12 rfl 0 rfl ?_
      refine gc_getI C iwx_X9 hL hx0 (by decide) (by decide) rfl 1 (by decide) (hW kw_417) rfl rfl rfl dX9_addRange_13 ?_
      refine g_bipush (v := 12) C dX9_addRange_16 (by decide) ?_
      refine g_icmp_lt (tgt := 23) C dX9_addRange_18 (by decide) (fun z3 => ?_) (fun z3 => ?_)
      · replace h := h.1 z3
        refine g_aload_n C dX9_addRange_23 rfl 0 rfl ?_
        refine gc_getR C hw iwx_X9 hL hx0 (by decide) (by decide) rfl 2 (by decide) (hW kw_419) rfl rfl rfl dX9_addRange_24 (fun o4 eo4 ko4 => ?_)
        obtain ⟨b5, hb9, h⟩ := h
        have g6 : hK S b5 = 22 := ko4 b5 (eo4.trans hb9)
        replace h := h g6
        refine g_opt (eo4.trans hb9) ?_
        refine g_aload_n C dX9_addRange_27 rfl 0 rfl ?_
        refine gc_getI C iwx_X9 hL hx0 (by decide) (by decide) rfl 1 (by decide) (hW kw_417) rfl rfl rfl dX9_addRange_28 ?_
        refine g_iload_n C dX9_addRange_31 rfl 2 rfl ?_
        obtain ⟨g7, h⟩ := h
        refine gc_iast C hL g6 g7 dX9_addRange_32 ?_
        have w8 := wt_putA hw (Int32.toNatClampNeg (hI S 201 x0)) p1 (k_ne g6 (by decide))
        refine gc_nS (fun S9 eS9 => ?_)
        replace h := h S9 eS9
        have w10 : wt S9 := by rw [eS9]; exact w8
        have w11 : isL S9 L := by rw [eS9]; exact hL
        have w12 : ext S0 S9 := by rw [eS9]; exact he
        have g13 : hK S9 x0 = 10 := by rw [eS9]; exact hx0
        refine g_aload_n C dX9_addRange_33 rfl 0 rfl ?_
        refine gc_getR C w10 iwx_X9 w11 g13 (by decide) (by decide) rfl 3 (by decide) (hW kw_420) rfl rfl rfl dX9_addRange_34 (fun o14 eo14 ko14 => ?_)
        obtain ⟨b15, hb9, h⟩ := h
        have g16 : hK S9 b15 = 22 := ko14 b15 (eo14.trans hb9)
        replace h := h g16
        refine g_opt (eo14.trans hb9) ?_
        refine g_aload_n C dX9_addRange_37 rfl 0 rfl ?_
        refine gc_getI C iwx_X9 w11 g13 (by decide) (by decide) rfl 1 (by decide) (hW kw_417) rfl rfl rfl dX9_addRange_38 ?_
        refine g_iload_n C dX9_addRange_41 rfl 3 rfl ?_
        obtain ⟨g17, h⟩ := h
        refine gc_iast C w11 g16 g17 dX9_addRange_42 ?_
        have w18 := wt_putA w10 (Int32.toNatClampNeg (hI S9 201 x0)) p2 (k_ne g16 (by decide))
        refine gc_nS (fun S19 eS19 => ?_)
        replace h := h S19 eS19
        have w20 : wt S19 := by rw [eS19]; exact w18
        have w21 : isL S19 L := by rw [eS19]; exact w11
        have w22 : ext S0 S19 := by rw [eS19]; exact w12
        have g23 : hK S19 x0 = 10 := by rw [eS19]; exact g13
        refine g_aload_n C dX9_addRange_43 rfl 0 rfl ?_
        refine gc_getR C w20 iwx_X9 w21 g23 (by decide) (by decide) rfl 4 (by decide) (hW kw_421) rfl rfl rfl dX9_addRange_44 (fun o24 eo24 ko24 => ?_)
        obtain ⟨b25, hb9, h⟩ := h
        have g26 : hK S19 b25 = 22 := ko24 b25 (eo24.trans hb9)
        replace h := h g26
        refine g_opt (eo24.trans hb9) ?_
        refine g_aload_n C dX9_addRange_47 rfl 0 rfl ?_
        refine gc_getI C iwx_X9 w21 g23 (by decide) (by decide) rfl 1 (by decide) (hW kw_417) rfl rfl rfl dX9_addRange_48 ?_
        refine g_iload_n C dX9_addRange_51 rfl 1 rfl ?_
        obtain ⟨g27, h⟩ := h
        refine gc_iast C w21 g26 g27 dX9_addRange_52 ?_
        have w28 := wt_putA w20 (Int32.toNatClampNeg (hI S19 201 x0)) p0 (k_ne g26 (by decide))
        refine gc_nS (fun S29 eS29 => ?_)
        replace h := h S29 eS29
        have w30 : wt S29 := by rw [eS29]; exact w28
        have w31 : isL S29 L := by rw [eS29]; exact w21
        have w32 : ext S0 S29 := by rw [eS29]; exact w22
        have g33 : hK S29 x0 = 10 := by rw [eS29]; exact g23
        refine g_aload_n C dX9_addRange_53 rfl 0 rfl ?_
        refine g_dup C dX9_addRange_54 rfl ?_
        refine gc_getI C iwx_X9 w31 g33 (by decide) (by decide) rfl 1 (by decide) (hW kw_417) rfl rfl rfl dX9_addRange_55 ?_
        refine g_iconst (v := 1) C dX9_addRange_58 (by decide) ?_
        refine g_iadd C dX9_addRange_59 ?_
        refine gc_putI C iwx_X9 w31 g33 (by decide) (by decide) rfl 1 (by decide) (hW kw_417) rfl tyX9 tyX9_ok nmX9 rfl rfl rfl rfl rfl dX9_addRange_60 ?_
        have w34 := wt_putI w30 201 ((hI S29 201 x0) + 1) (k_ne g33 (by decide))
        refine gc_nS (fun S35 eS35 => ?_)
        replace h := h S35 eS35
        have w36 : wt S35 := by rw [eS35]; exact w34
        have w37 : isL S35 L := by rw [eS35]; exact w31
        have w38 : ext S0 S35 := by rw [eS35]; exact w32
        have g39 : hK S35 x0 = 10 := by rw [eS35]; exact g33
        refine g_iconst (v := 1) C dX9_addRange_63 (by decide) ?_
        exact gc_zret C vz1 w36 w37 w38 hr dX9_addRange_64 h
      · replace h := h.2 z3
        refine g_iconst (v := 0) C dX9_addRange_21 (by decide) ?_
        exact gc_zret C vz0 hw hL he hr dX9_addRange_22 h
theorem c_X9_addRange (l : Launch) (D : va_G) (T : Nat → ClassId) (x0 : Nat) (p0 : Int32) (p1 : Int32) (p2 : Int32) (S : HS) (hx0 : hK S x0 = 10) (P : Int32 → HS → Prop) (h : wp_X9_addRange P x0 p0 p1 p2 S) : CMi l yX9_addRange (ws_X9_addRange) rm_X9_addRange D T [.ref x0, .int p0, .int p1, .int p2] S 0 0 P := gc_meti (by decide) rfl rfl (Nat.le_of_ble_eq_true rfl) (fun p e s m args below meth c A L C E hnm hr hw hL => t_X9_addRange C E   hr P x0 p0 p1 p2 S S L rfl hw hL hx0 h)
/-- the kinds of a version's own addresses -/
def okd (i : Nat) : Nat := if i = 0 then 10 else if i < 4 then 22 else if i = 4 then 26 else if i = 5 then 25 else if i % 3 = 0 then 5 else 22
/-- a version's own addresses: itself, three rows of ranges, the scales' row, the accessorials' row, nine scales with two rows each; all of them different -/
def OwV (S : HS) (x : Nat) (a : Nat → Nat) : Prop := a 0 = x ∧ hR S 202 x = some (a 1) ∧ hR S 203 x = some (a 2) ∧ hR S 204 x = some (a 3) ∧ hR S 205 x = some (a 4) ∧ hR S 210 x = some (a 5) ∧ (∀ z, z < 9 → hB S (a 4) z = some (a (6 + 3 * z)) ∧ hR S 101 (a (6 + 3 * z)) = some (a (7 + 3 * z)) ∧ hR S 102 (a (6 + 3 * z)) = some (a (8 + 3 * z))) ∧ (∀ i, i < 33 → hK S (a i) = okd i) ∧ ∀ i j, i < 33 → j < 33 → a i = a j → i = j
def owA (a : Nat → Nat) (b : Nat) : Prop := ∃ i, i < 33 ∧ b = a i
/-- what a version's change leaves -/
def vmP (S S1 : HS) (x : Nat) (a : Nat → Nat) : Prop := frM S S1 (owA a) ∧ OwV S1 x a
theorem RelSc.sx {S S1 : HS} {M : Nat → Prop} {x v z : Nat} {μ : Nat → Int32} (h : RelSc S M x μ v z) (hx : sam S S1 x) (hw : ∀ b, hR S 101 x = some b → sam S S1 b) (hp : ∀ b, hR S 102 x = some b → sam S S1 b) : RelSc S1 M x μ v z := by
  obtain ⟨h1, h2, h3, h4, w, p, g1, g2, g3, g4, g5⟩ := h
  obtain ⟨k, _, e, r, _⟩ := hx
  obtain ⟨w1, w2, _, _, w3, _⟩ := hw w g1
  obtain ⟨p1, p2, _, _, p3, _⟩ := hp p g2
  refine ⟨by rw [k]; exact h1, h2, by rw [e]; exact h3, by rw [e]; exact h4, w, p, by rw [r]; exact g1, by rw [r]; exact g2, ⟨by rw [w1]; exact g3.1, by rw [w2]; exact g3.2.1, g3.2.2⟩, ⟨by rw [p1]; exact g4.1, by rw [p2]; exact g4.2.1, g4.2.2⟩, fun i hi => ?_⟩
  rw [w3, p3]
  exact g5 i hi
theorem RelT.km {S S1 : HS} {M : Nat → Prop} {t n : Nat} {op : Prop} (h : RelT S M t n op) (hf : sam S S1 t) : RelT S1 M t n op := by
  obtain ⟨h1, h2, h3, h4, h5, h6, h7, h8⟩ := h
  obtain ⟨k, _, e, _⟩ := hf
  exact ⟨by rw [k]; exact h1, h2, fun z => by rw [e]; exact h3 z, fun z => by rw [e]; exact h4 z, by rw [e]; exact h5, by rw [e]; exact h6, fun z => by rw [e]; exact h7 z, by rw [e]; exact h8⟩
theorem RelA.km {S S1 : HS} {M : Nat → Prop} {y v a : Nat} {μ : Nat → Int32} (h : RelA S M y μ v a) (hf : ∀ b, hK S b = 1 ∨ hK S b = 13 ∨ hK S b = 30 ∨ hK S b = 9 → sam S S1 b) : RelA S1 M y μ v a := by
  obtain ⟨h1, h2, h3, h4, h5, h6, al, ar, g1, g2, g3, g4, g5, g6, g7, g8, g9⟩ := h
  obtain ⟨ky, _, ey, ry, _⟩ := hf y (Or.inl h1)
  obtain ⟨kl, _, el, rl, _⟩ := hf al (Or.inr (Or.inl g2))
  obtain ⟨ka, na, _, _, _, ba⟩ := hf ar (Or.inr (Or.inr (Or.inl g5)))
  refine ⟨by rw [ky]; exact h1, h2, by rw [ey]; exact h3, by rw [ey]; exact h4, by rw [ey]; exact h5, by rw [ey]; exact h6, al, ar, by rw [ry]; exact g1, by rw [kl]; exact g2, g3, by rw [rl]; exact g4, by rw [ka]; exact g5, g6, by rw [el]; exact g7, by rw [na]; exact g8, fun j hj => ?_⟩
  obtain ⟨t, t1, t2⟩ := g9 j hj
  exact ⟨t, by rw [ba]; exact t1, t2.km (hf t (Or.inr (Or.inr (Or.inr t2.1))))⟩
theorem okd_n {i k : Nat} (h : okd i = k) : k = 10 ∨ k = 22 ∨ k = 26 ∨ k = 25 ∨ k = 5 := by
  unfold okd at h
  split at h
  · omega
  · split at h
    · omega
    · split at h
      · omega
      · split at h
        · omega
        · split at h <;> omega
theorem OwV.ac {S S1 : HS} {x : Nat} {a : Nat → Nat} (h : OwV S x a) (hf : frM S S1 (owA a)) {b : Nat} (hb : hK S b = 1 ∨ hK S b = 13 ∨ hK S b = 30 ∨ hK S b = 9) : sam S S1 b := hf b (fun ⟨i, hi, e⟩ => by
    have := okd_n (h.2.2.2.2.2.2.2.1 i hi).symm
    rw [← e] at this
    omega) (by omega)
theorem OwV.ne {S : HS} {x : Nat} {a : Nat → Nat} (h : OwV S x a) {i j : Nat} (hi : i < 33) (hj : j < 33) (hij : i ≠ j) : a i ≠ a j := fun e => hij (h.2.2.2.2.2.2.2.2 i j hi hj e)
theorem OwV.k {S : HS} {x : Nat} {a : Nat → Nat} (h : OwV S x a) {i k : Nat} (hi : i < 33) (e : okd i = k) : hK S (a i) = k := (h.2.2.2.2.2.2.2.1 i hi).trans e
/-- the addresses are kept where references are -/
theorem OwV.up {S S1 : HS} {x : Nat} {a : Nat → Nat} (h : OwV S x a) (hk : ∀ i, i < 33 → hK S1 (a i) = hK S (a i)) (hr : ∀ i, hR S1 i x = hR S i x) (hb : hB S1 (a 4) = hB S (a 4)) (hs : ∀ i z, z < 9 → hR S1 i (a (6 + 3 * z)) = hR S i (a (6 + 3 * z))) : OwV S1 x a := by
  obtain ⟨h1, h2, h3, h4, h5, h6, h7, h8, h9⟩ := h
  exact ⟨h1, by rw [hr]; exact h2, by rw [hr]; exact h3, by rw [hr]; exact h4, by rw [hr]; exact h5, by rw [hr]; exact h6, fun z hz => by rw [hb, hs _ z hz, hs _ z hz]; exact h7 z hz, fun i hi => by rw [hk i hi]; exact h8 i hi, h9⟩
theorem frM.sub {S S1 : HS} {M N : Nat → Prop} (h : frM S S1 M) (hm : ∀ b, M b → N b) : frM S S1 N := h.mn (fun b _ hb => hm b hb)
/-- all but the ranges is as it was -/
theorem RelV.rg {S S1 : HS} {M : Nat → Prop} {x v : Nat} {μ μ' : Nat → Int32} {a : Nat → Nat} (hV : RelV S M x μ v) (hO : OwV S x a) (hf : frM S S1 (fun b => b = x ∨ b = a 1 ∨ b = a 2 ∨ b = a 3)) (hk : hK S1 = hK S) (hn9 : hN S1 = hN S) (hr : hR S1 = hR S) (hi : ∀ i, i ≠ 201 → hI S1 i x = hI S i x) (hm : ∀ k, k < 510 → (k = 0 ∨ 38 ≤ k) → μ' (274 + 510 * v + k) = μ (274 + 510 * v + k)) (hc : hI S1 201 x = μ' (274 + 510 * v + 1)) (h5 : ∀ z, 1 ≤ z → z ≤ 9 → sm μ (274 + 510 * v + 38 + z - 1) 5) (h30 : ∀ a, a < 10 → iv (μ (274 + 510 * v + 150 + 36 * a + 4)) ≤ 30) (hh : ∀ i, i < iv (μ' (274 + 510 * v + 1)) → hA S1 (a 1) i = μ' (274 + 510 * v + 2 + 3 * i) ∧ hA S1 (a 2) i = μ' (274 + 510 * v + 2 + 3 * i + 1) ∧ hA S1 (a 3) i = μ' (274 + 510 * v + 2 + 3 * i + 2)) : RelV S1 M x μ' v := by
  have e0 : ∀ {a b k : Nat}, a = 274 + 510 * v + k → b = 274 + 510 * v + k → k < 510 → (k = 0 ∨ 38 ≤ k) → μ' a = μ b := fun ha hb hk h38 => by rw [ha, hb]; exact hm _ hk h38
  obtain ⟨⟨h1, h2, h3, h4, h6, h7, h8, h9⟩, ⟨fa, t, zz, r1, r2, r3, z1, z2, z3, _⟩, ⟨sc, r4, z4, hs⟩, ⟨ac, r5, z5, ha⟩⟩ := hV
  obtain ⟨o0, o1, o2, o3, o4, o5, o6, o7, o8⟩ := hO
  have hO : OwV S x a := ⟨o0, o1, o2, o3, o4, o5, o6, o7, o8⟩
  have q1 : a 1 = fa := Option.some.inj (o1.symm.trans r1)
  have q2 : a 2 = t := Option.some.inj (o2.symm.trans r2)
  have q3 : a 3 = zz := Option.some.inj (o3.symm.trans r3)
  have q4 : a 4 = sc := Option.some.inj (o4.symm.trans r4)
  have q5 : a 5 = ac := Option.some.inj (o5.symm.trans r5)
  have sa : ∀ i, 4 ≤ i → i < 33 → sam S S1 (a i) := fun i h4 hi => hf _ (fun z => by
      rw [← o0] at z
      rcases z with z | z | z | z
      · exact hO.ne hi (by omega) (by omega) z
      · exact hO.ne hi (by omega) (by omega) z
      · exact hO.ne hi (by omega) (by omega) z
      · exact hO.ne hi (by omega) (by omega) z) (by
      have := okd_n (o7 i hi).symm
      omega)
  have hf' : frM S S1 (owA a) := hf.sub (fun b hb => by
    rcases hb with z | z | z | z
    · exact ⟨0, by omega, z.trans o0.symm⟩
    · exact ⟨1, by omega, z⟩
    · exact ⟨2, by omega, z⟩
    · exact ⟨3, by omega, z⟩)
  have fz9 : ∀ {b k n : Nat}, fz S M b k n → fz S1 M b k n := fun h => ⟨by rw [hk]; exact h.1, by rw [hn9]; exact h.2.1, h.2.2⟩
  refine ⟨⟨by rw [hk]; exact h1, h2, ?_, hc, ?_, ?_, ?_, ?_⟩, ⟨a 1, a 2, a 3, by rw [hr]; exact o1, by rw [hr]; exact o2, by rw [hr]; exact o3, fz9 (by rw [q1]; exact z1), fz9 (by rw [q2]; exact z2), fz9 (by rw [q3]; exact z3), hh⟩, ⟨a 4, by rw [hr]; exact o4, fz9 (by rw [q4]; exact z4), fun z hz => ?_⟩, ⟨a 5, by rw [hr]; exact o5, fz9 (by rw [q5]; exact z5), fun b hb => ?_⟩⟩
  · rw [hi _ (by decide), h3]; exact (hm 0 (by omega) (by omega)).symm
  · rw [hi _ (by decide), h6]; exact (hm 146 (by omega) (by omega)).symm
  · rw [hi _ (by decide), h7]; exact (hm 147 (by omega) (by omega)).symm
  · rw [hi _ (by decide), h8]; exact (hm 148 (by omega) (by omega)).symm
  · rw [hi _ (by decide), h9]; exact (hm 149 (by omega) (by omega)).symm
  · obtain ⟨u, u1, u2⟩ := hs z hz
    obtain ⟨w1, w2, w3⟩ := o6 z hz
    have eu : a (6 + 3 * z) = u := by rw [q4] at w1; exact Option.some.inj (w1.symm.trans u1)
    refine ⟨a (6 + 3 * z), by rw [(sa 4 (by omega) (by omega)).2.2.2.2.2]; exact w1, ?_⟩
    rw [← eu] at u2
    have u3 := u2.sx (S1 := S1) (sa _ (by omega) (by omega)) (fun b hb => by rw [w2] at hb; rw [← Option.some.inj hb]; exact sa _ (by omega) (by omega)) (fun b hb => by rw [w3] at hb; rw [← Option.some.inj hb]; exact sa _ (by omega) (by omega))
    obtain ⟨v1, v2, v3, v4, w, p, v5, v6, v7, v8, v9⟩ := u3
    have ez : μ' (274 + 510 * v + 38 + (z + 1) - 1) = μ (274 + 510 * v + 38 + (z + 1) - 1) := e0 (k := 38 + z) (by omega) (by omega) (by omega) (by omega)
    refine ⟨v1, v2, v3.trans ez.symm, v4.trans (e0 (k := 137 + z) (by omega) (by omega) (by omega) (by omega)).symm, w, p, v5, v6, v7, v8, fun i hi9 => ?_⟩
    rw [ez] at hi9
    obtain ⟨n, hn, en⟩ := h5 (z + 1) (by omega) (by omega)
    have hi5 : i < 5 := by
      have := hi9
      rw [en, show iv (nI n) = n from nI_clamp (by omega)] at this
      omega
    obtain ⟨y1, y2⟩ := v9 i hi9
    exact ⟨y1.trans (e0 (k := 47 + 10 * z + 2 * i) (by omega) (by omega) (by omega) (by omega)).symm, y2.trans (e0 (k := 47 + 10 * z + 2 * i + 1) (by omega) (by omega) (by omega) (by omega)).symm⟩
  · rw [(sa 5 (by omega) (by omega)).2.2.2.2.2, e0 (a := 274 + 510 * v + 150 + 36 * b) (b := 274 + 510 * v + 150 + 36 * b) (k := 150 + 36 * b) (by omega) (by omega) (by omega) (by omega), q5]
    rcases ha b hb with h | ⟨u1, u, u2, u3⟩
    · exact Or.inl h
    · exact Or.inr ⟨u1, u, u2, (u3.km (fun b9 hb9 => hO.ac hf' hb9)).cg (fun k hk9 => e0 (k := 150 + 36 * b + k) (by omega) (by omega) (by omega) (by omega)) (h30 b hb)⟩
theorem WF.v30 {μ : Nat → Int32} (hw : WF μ) {v : Nat} (hv : v < 6) : ∀ a, a < 10 → iv (μ (274 + 510 * v + 150 + 36 * a + 4)) ≤ 30 := fun a ha => by
  obtain ⟨n, hn, en⟩ := (hw.acc hv ha).2.2.2.2.1
  rw [en, show iv (nI n) = n from nI_clamp (by omega)]
  exact hn
theorem k_X9_addRange (l : Launch) (D : va_G) (T : Nat → ClassId) (x0 : Nat) (p0 : Int32) (p1 : Int32) (p2 : Int32) (S : HS) (e0 : (Nat → Prop)) (e1 : Nat → Int32) (e2 : Nat) (e3 : Nat → Nat) (hx0 : hK S x0 = 10) (h : ((WF e1 ∧ e2 < 6 ∧ RelV S e0 x0 e1 e2) ∧ OwV S x0 e3)) : CMi l yX9_addRange (ws_X9_addRange) rm_X9_addRange D T [.ref x0, .int p0, .int p1, .int p2] S 0 0 (fun v S1 => (v = b2i (ptB e1 e2 p1 p2) ∧ (ptB e1 e2 p1 p2 = true → RelV S1 e0 x0 (ptS e1 e2 p0 p1 p2) e2) ∧ vmP S S1 x0 e3)) := c_X9_addRange l D T x0 p0 p1 p2 S hx0 _ <|
  (by
    obtain ⟨⟨hw, hv, hV⟩, hO⟩ := h
    obtain ⟨n, hn, en⟩ := hw.rng hv
    have i1 : iv (e1 (274 + 510 * e2 + 1)) = n := by rw [en]; exact nI_clamp (by omega)
    have hV0 := hV
    obtain ⟨⟨h1, h2, h3, h4, h6, h7, h8, h9⟩, ⟨fa, t, zz, r1, r2, r3, z1, z2, z3, hh⟩, _⟩ := hV
    have hO0 := hO
    obtain ⟨o0, o1, o2, o3, o4, o5, o6, o7, o8⟩ := hO
    have q1 : fa = e3 1 := Option.some.inj (r1.symm.trans o1)
    have q2 : t = e3 2 := Option.some.inj (r2.symm.trans o2)
    have q3 : zz = e3 3 := Option.some.inj (r3.symm.trans o3)
    subst q1 q2 q3
    have n12 : e3 1 ≠ e3 2 := hO0.ne (by omega) (by omega) (by omega)
    have n13 : e3 1 ≠ e3 3 := hO0.ne (by omega) (by omega) (by omega)
    have n23 : e3 2 ≠ e3 3 := hO0.ne (by omega) (by omega) (by omega)
    have i4 := h4.trans en
    have bad : ptB e1 e2 p1 p2 = false → (0 : Int32) = b2i (ptB e1 e2 p1 p2) ∧ (ptB e1 e2 p1 p2 = true → RelV S e0 x0 (ptS e1 e2 p0 p1 p2) e2) ∧ vmP S S x0 e3 := fun e => ⟨by rw [e]; rfl, fun g => by rw [e] at g; exact absurd g (by decide), frM.rf, hO0⟩
    unfold wp_X9_addRange
    refine ⟨fun c => bad ?_, fun c => ⟨fun c2 => bad ?_, fun c2 => ⟨fun c3 => ⟨e3 1, o1, fun _ => ?_⟩, fun c3 => bad ?_⟩⟩⟩
    · unfold ptB; rw [decide_eq_true c]; simp
    · unfold ptB; rw [decide_eq_true c2]; simp
    · rw [i4] at c3 ⊢
      have hn12 : n < 12 := (nI_ltI (b := 12) (by omega) (by decide)).mp c3
      rw [z1.2.1, nz_vp (by omega) (by decide), nI_clamp (n := n) (by omega)]
      refine ⟨hn12, fun S9 e9 => ⟨e3 2, by rw [e9, px_RA]; exact o2, fun _ => ?_⟩⟩
      rw [show hI S9 201 x0 = nI n by rw [e9, px_IA]; exact i4, show hN S9 (e3 2) = 12 by rw [e9, px_NA]; exact z2.2.1, nz_vp (by omega) (by decide), nI_clamp (n := n) (by omega)]
      refine ⟨hn12, fun S19 e19 => ⟨e3 3, by rw [e19, e9, px_RA, px_RA]; exact o3, fun _ => ?_⟩⟩
      rw [show hI S19 201 x0 = nI n by rw [e19, e9, px_IA, px_IA]; exact i4, show hN S19 (e3 3) = 12 by rw [e19, e9, px_NA, px_NA]; exact z3.2.1, nz_vp (by omega) (by decide), nI_clamp (n := n) (by omega)]
      refine ⟨hn12, fun S29 e29 S35 e35 => ?_⟩
      rw [show hI S29 201 x0 = nI n by rw [e29, e19, e9, px_IA, px_IA, px_IA]; exact i4, nI_1] at e35
      have hPt : ptB e1 e2 p1 p2 = true := by
        unfold ptB
        rw [decide_eq_false c, decide_eq_false c2, decide_eq_false (show ¬ 999 < p1 from fun z => c2 (Int32.lt_of_lt_of_le z (Int32.not_lt.mp c))), en, decide_eq_false (show ¬ nI n = (12 : Int32) from fun z => by have := (nI_eq (b := 12) (by omega) (by decide)).mp z; omega)]
        rfl
      have F : frM S S35 (fun b => b = x0 ∨ b = e3 1 ∨ b = e3 2 ∨ b = e3 3) := by
        rw [e35, e29, e19, e9]
        exact ((((frM.rf.pA (Or.inr (Or.inl rfl)) _ _).pA (Or.inr (Or.inr (Or.inl rfl))) _ _).pA (Or.inr (Or.inr (Or.inr rfl))) _ _).pI (Or.inl rfl) _ _)
      have Fo : frM S S35 (owA e3) := F.sub (fun b hb => by
        rcases hb with z | z | z | z
        · exact ⟨0, by omega, z.trans o0.symm⟩
        · exact ⟨1, by omega, z⟩
        · exact ⟨2, by omega, z⟩
        · exact ⟨3, by omega, z⟩)
      have kk : hK S35 = hK S := by rw [e35, e29, e19, e9]; simp only [px_KI, px_KR, px_KA, px_KB, px_KO, px_KW, px_KC, px_NI, px_NR, px_NA, px_NB, px_NO, px_NW, px_NC, px_II, px_IR, px_IA, px_IB, px_IO, px_IW, px_IC, px_RI, px_RR, px_RA, px_RB, px_RO, px_RW, px_RC, px_AI, px_AR, px_AA, px_AB, px_AO, px_AW, px_AC, px_BI, px_BR, px_BA, px_BB, px_BO, px_BW, px_BC]
      have nn : hN S35 = hN S := by rw [e35, e29, e19, e9]; simp only [px_KI, px_KR, px_KA, px_KB, px_KO, px_KW, px_KC, px_NI, px_NR, px_NA, px_NB, px_NO, px_NW, px_NC, px_II, px_IR, px_IA, px_IB, px_IO, px_IW, px_IC, px_RI, px_RR, px_RA, px_RB, px_RO, px_RW, px_RC, px_AI, px_AR, px_AA, px_AB, px_AO, px_AW, px_AC, px_BI, px_BR, px_BA, px_BB, px_BO, px_BW, px_BC]
      have rr : hR S35 = hR S := by rw [e35, e29, e19, e9]; simp only [px_KI, px_KR, px_KA, px_KB, px_KO, px_KW, px_KC, px_NI, px_NR, px_NA, px_NB, px_NO, px_NW, px_NC, px_II, px_IR, px_IA, px_IB, px_IO, px_IW, px_IC, px_RI, px_RR, px_RA, px_RB, px_RO, px_RW, px_RC, px_AI, px_AR, px_AA, px_AB, px_AO, px_AW, px_AC, px_BI, px_BR, px_BA, px_BB, px_BO, px_BW, px_BC]
      have bb : hB S35 = hB S := by rw [e35, e29, e19, e9]; simp only [px_KI, px_KR, px_KA, px_KB, px_KO, px_KW, px_KC, px_NI, px_NR, px_NA, px_NB, px_NO, px_NW, px_NC, px_II, px_IR, px_IA, px_IB, px_IO, px_IW, px_IC, px_RI, px_RR, px_RA, px_RB, px_RO, px_RW, px_RC, px_AI, px_AR, px_AA, px_AB, px_AO, px_AW, px_AC, px_BI, px_BR, px_BA, px_BB, px_BO, px_BW, px_BC]
      have hc1 : ptS e1 e2 p0 p1 p2 (274 + 510 * e2 + 1) = nI (n + 1) := by
        unfold ptS upd
        rw [if_pos rfl, en, nI_1]
      refine ⟨by rw [hPt]; rfl, fun _ => hV0.rg hO0 F kk nn rr (fun i hi => ?_) (fun k hk9 h38 => ?_) ?_ (fun z z1 z9 => hw.brk hv z1 z9) (hw.v30 hv) (fun i hi => ?_), Fo, hO0.up (fun i _ => by rw [kk]) (fun i => by rw [rr]) (by rw [bb]) (fun i z _ => by rw [rr])⟩
      · rw [e35, px_II, if_neg (fun z => hi z.1), e29, e19, e9]; simp only [px_KI, px_KR, px_KA, px_KB, px_KO, px_KW, px_KC, px_NI, px_NR, px_NA, px_NB, px_NO, px_NW, px_NC, px_II, px_IR, px_IA, px_IB, px_IO, px_IW, px_IC, px_RI, px_RR, px_RA, px_RB, px_RO, px_RW, px_RC, px_AI, px_AR, px_AA, px_AB, px_AO, px_AW, px_AC, px_BI, px_BR, px_BA, px_BB, px_BO, px_BW, px_BC]
      · unfold ptS upd
        rw [i1]
        rw [if_neg (by omega), if_neg (by omega), if_neg (by omega), if_neg (by omega)]
      · rw [hc1, e35, putI_s]
      · rw [hc1, show iv (nI (n + 1)) = n + 1 from nI_clamp (by omega)] at hi
        have a1 : hA S35 (e3 1) i = if i = n then p1 else hA S (e3 1) i := by
          rw [e35, px_AI, e29, putA_o _ _ _ n13, e19, putA_o _ _ _ n12, e9, px_A1]
        have a2 : hA S35 (e3 2) i = if i = n then p2 else hA S (e3 2) i := by
          rw [e35, px_AI, e29, putA_o _ _ _ n23, e19, px_A1, e9, putA_o _ _ _ (Ne.symm n12)]
        have a3 : hA S35 (e3 3) i = if i = n then p0 else hA S (e3 3) i := by
          rw [e35, px_AI, e29, px_A1, e19, putA_o _ _ _ (Ne.symm n23), e9, putA_o _ _ _ (Ne.symm n13)]
        have c0 : ptS e1 e2 p0 p1 p2 (274 + 510 * e2 + 2 + 3 * i) = (if i = n then p1 else e1 (274 + 510 * e2 + 2 + 3 * i)) ∧ ptS e1 e2 p0 p1 p2 (274 + 510 * e2 + 2 + 3 * i + 1) = (if i = n then p2 else e1 (274 + 510 * e2 + 2 + 3 * i + 1)) ∧ ptS e1 e2 p0 p1 p2 (274 + 510 * e2 + 2 + 3 * i + 2) = (if i = n then p0 else e1 (274 + 510 * e2 + 2 + 3 * i + 2)) := by
          unfold ptS upd
          rw [i1]
          refine ⟨?_, ?_, ?_⟩ <;> (repeat' split) <;> first | rfl | omega
        rw [a1, a2, a3, c0.1, c0.2.1, c0.2.2]
        by_cases g : i = n
        · simp only [if_pos g, and_self]
        · simp only [if_neg g]
          exact hh i (by rw [i1]; omega)
    · unfold ptB
      rw [en, decide_eq_true (show nI n = (12 : Int32) from (nI_eq (b := 12) (by omega) (by decide)).mpr (by
        rcases Nat.lt_or_ge n 12 with q | q
        · exact absurd (by rw [i4]; exact (nI_ltI (b := 12) (by omega) (by decide)).mpr q) c3
        · omega))]
      simp)

end S_C5E
