section S_C5F
abbrev ws_X9_setMinimum : List Cond := Cond.code yX9_setMinimum cX9_setMinimum 4 (some .boolean) :: W0
abbrev rm_X9_setMinimum : Room := ({ frames := 2, cells := 0, slots := 0, locals := 43 } : Room)
def wp_X9_setMinimum (P : Int32 → HS → Prop) (x0 : Nat) (p0 : Int32) (p1 : Int32) (S : HS) : Prop := ∃ (m1 : (Nat → Prop)) (m2 : Nat → Int32) (m3 : Nat), ((WF m2 ∧ m3 < 6 ∧ RelV S m1 x0 m2 m3) ∧ (∀ (o10 : Option Nat) (S5 : HS), ext S S5 → (∀ b, o10 = some b → hK S5 b = 5) → (S5 = S ∧ (zin p0 1 9 = 0 → o10 = none) ∧ (¬ zin p0 1 9 = 0 → ∃ y, o10 = some y ∧ RelSc S m1 y m2 m3 (iv p0) ∧ ∃ sc, hR S 205 x0 = some sc ∧ hB S sc (iv p0 - 1) = some y)) → ((o10 = none → (P 0 S5)) ∧ (∀ b13 : Nat, o10 = some b13 → hK S5 b13 = 5 → (∀ S16 : HS, S16 = putI S5 103 b13 p1 → (P 1 S16))))))
set_option maxRecDepth 100000 in
set_option maxHeartbeats 4000000 in
theorem t_X9_setMinimum {p : Program} {l : Launch} {e : Env} {s : State} {m : MethodId} {args : Array Value} {below : List Frame} {meth : Method} {c : Code} {D : va_G} {A : Nat → Prop} {T : Nat → ClassId} (C : GC p s m args meth c cX9_setMinimum "FreightRater$Version" (ws_X9_setMinimum) 4 D A (zty T)) (E : GE T A s) (hr : meth.sig.returnType = (some .boolean)) (P : Int32 → HS → Prop) : ∀ (x0 : Nat) (p0 : Int32) (p1 : Int32) (S0 S : HS) (L : List Nat), S0 = S → wt S → hL S L → (hK S x0 = 10) → wp_X9_setMinimum P x0 p0 p1 S → GW p l e { rm_X9_setMinimum with cells := 0, slots := 0 } s m args below meth c D A 4 0 0 (MQ below (va_Qi (fun v (u : HS × List Nat) => P v u.1 ∧ CO S0 u) (CE D T A) A) args s 0 0 A) (CW T S L) 0 0 0 [(0, .ref x0), (1, .int p0), (2, .int p1)] [] := by
  have hW : ∀ {w : Cond}, w ∈ W0 → w.before args s = true := fun h => C.2.2.2.2.1 _ (List.mem_cons_of_mem _ h)
  intro x0 p0 p1 S0 S L hS0 hw hL hx0 h
  have he : ext S0 S := by rw [hS0]; exact ext_rf
  unfold wp_X9_setMinimum at h
  refine g_aload_n C dX9_setMinimum_0 rfl 0 rfl ?_
  refine g_iload_n C dX9_setMinimum_1 rfl 1 rfl ?_
  obtain ⟨m1, m2, m3, h⟩ := h
  obtain ⟨g4, h⟩ := h
  refine gc_callqV (host := "") C E hw hL hx0 (by decide) (by decide) rfl [.int p0] rfl (k_X9_scaleOf l D T x0 p0 S m1 m2 m3 hx0 g4) (w0_V 1 C.2.2.2.2.1 kw_906 kw_907 kw_908 kw_14 kw_909 rfl rfl (by decide +kernel) ⟨Nat.le_of_ble_eq_true rfl, Nat.le_of_ble_eq_true rfl⟩) rfl (Nat.le_of_ble_eq_true rfl) (Nat.le_refl _) (Nat.le_refl _) (Nat.zero_le _) (Nat.zero_le _) dX9_setMinimum_2 (fun o10 S5 L6 e7 w8 w9 ko10 hp => ?_)
  replace h := h o10 S5 e7 ko10 hp
  have g11 := ext_K e7 hx0 (by decide)
  have w12 := ext_tr he e7
  refine g_qstore_n (lv' := [(3, va_rf o10), (0, .ref x0), (1, .int p0), (2, .int p1)]) C dX9_setMinimum_5 rfl (by decide) rfl ?_
  refine g_qload_n C dX9_setMinimum_6 rfl 0 rfl ?_
  rcases o10 with _ | b13
  · replace h := h.1 rfl
    refine g_ifnonnullN C dX9_setMinimum_7 ?_
    refine g_iconst (v := 0) C dX9_setMinimum_10 (by decide) ?_
    exact gc_zret C vz0 w8 w9 w12 hr dX9_setMinimum_11 h
  · have g14 : hK S5 b13 = 5 := ko10 b13 rfl
    replace h := h.2 b13 rfl g14
    refine g_ifnonnull (tgt := 12) C dX9_setMinimum_7 (by decide) ?_
    refine g_aload_n C dX9_setMinimum_12 rfl 0 rfl ?_
    refine g_iload_n C dX9_setMinimum_13 rfl 3 rfl ?_
    refine gc_putI C iwx_X4 w9 g14 (by decide) (by decide) rfl 3 (by decide) (hW kw_404) rfl tyX4 tyX4_ok nmX4 rfl rfl rfl rfl rfl dX9_setMinimum_14 ?_
    have w15 := wt_putI w8 103 p1 (k_ne g14 (by decide))
    refine gc_nS (fun S16 eS16 => ?_)
    replace h := h S16 eS16
    have w17 : wt S16 := by rw [eS16]; exact w15
    have w18 : isL S16 L6 := by rw [eS16]; exact w9
    have w19 : ext S0 S16 := by rw [eS16]; exact w12
    have g20 : hK S16 b13 = 5 := by rw [eS16]; exact g14
    have g21 : hK S16 x0 = 10 := by rw [eS16]; exact g11
    refine g_iconst (v := 1) C dX9_setMinimum_17 (by decide) ?_
    exact gc_zret C vz1 w17 w18 w19 hr dX9_setMinimum_18 h
theorem c_X9_setMinimum (l : Launch) (D : va_G) (T : Nat → ClassId) (x0 : Nat) (p0 : Int32) (p1 : Int32) (S : HS) (hx0 : hK S x0 = 10) (P : Int32 → HS → Prop) (h : wp_X9_setMinimum P x0 p0 p1 S) : CMi l yX9_setMinimum (ws_X9_setMinimum) rm_X9_setMinimum D T [.ref x0, .int p0, .int p1] S 0 0 P := gc_meti (by decide) rfl rfl (Nat.le_of_ble_eq_true rfl) (fun p e s m args below meth c A L C E hnm hr hw hL => t_X9_setMinimum C E   hr P x0 p0 p1 S S L rfl hw hL hx0 h)
/-- only the scale's cells change -/
theorem bkS_o {μ : Nat → Int32} {v z c : Nat} {w y : Int32} (ec : μ (274 + 510 * v + 38 + z - 1) = nI c) (hc : c ≤ 5) (h1 : 1 ≤ z) (h9 : z ≤ 9) (hB : bkB μ v z w y = true) {k : Nat} (hk : k < 510) (ho : k < 38 ∨ 146 ≤ k ∨ (k < 47 ∧ k ≠ 38 + (z - 1)) ∨ (47 ≤ k ∧ k < 137 ∧ (k < 47 + 10 * (z - 1) ∨ 57 + 10 * (z - 1) ≤ k)) ∨ (137 ≤ k ∧ k ≠ 137 + (z - 1))) : bkS μ v z w y (274 + 510 * v + k) = μ (274 + 510 * v + k) := by
  have ic : iv (μ (274 + 510 * v + 38 + z - 1)) = c := by rw [ec]; exact nI_clamp (by omega)
  have hle : bxI μ v z w ≤ c := by
    have := (bxF_le (μ := μ) (v := v) (z := z) (w := w) c 0).2
    unfold bxI
    rw [ic]
    omega
  unfold bkS
  rw [ic]
  by_cases y0 : y = 0
  · rw [if_pos y0]
    unfold bkD
    rw [if_neg (by omega), if_neg (by omega)]
  · rw [if_neg y0]
    by_cases hb : bxB μ v z w = true
    · have hI : bxI μ v z w < c := by
        unfold bxB at hb
        rw [Bool.and_eq_true, decide_eq_true_eq, ic] at hb
        exact hb.1
      rw [if_pos hb]
      unfold upd
      rw [if_neg (by omega), if_neg (by omega)]
    · have h4 : c ≤ 4 := by
        unfold bkB at hB
        rw [if_neg y0, Bool.and_eq_true, Bool.or_eq_true, ec] at hB
        rcases hB.2 with q | q
        · exact absurd q hb
        · rw [Bool.not_eq_true', decide_eq_false_iff_not] at q
          rcases Nat.lt_or_ge c 5 with g | g
          · omega
          · exact absurd (show nI c = (5 : Int32) by rw [show c = 5 by omega]; rfl) q
      rw [if_neg hb]
      unfold upd bkU
      rw [if_neg (by omega), if_neg (by omega), if_neg (by omega), if_neg (by omega)]
theorem RelSc.c1 {S : HS} {M : Nat → Prop} {x v z : Nat} {μ μ' : Nat → Int32} (hr : RelSc S M x μ v z) (hz : 1 ≤ z ∧ z ≤ 9) (h38 : μ' (274 + 510 * v + 38 + z - 1) = μ (274 + 510 * v + 38 + z - 1)) (h137 : μ' (274 + 510 * v + 137 + z - 1) = μ (274 + 510 * v + 137 + z - 1)) (h47 : ∀ k, k < 10 → μ' (274 + 510 * v + 47 + 10 * (z - 1) + k) = μ (274 + 510 * v + 47 + 10 * (z - 1) + k)) (h5 : sm μ (274 + 510 * v + 38 + z - 1) 5) : RelSc S M x μ' v z := by
  obtain ⟨n, hn, en⟩ := h5
  obtain ⟨h1, h2, h3, h4, w, p, g1, g2, g3, g4, g5⟩ := hr
  refine ⟨h1, h2, h3.trans h38.symm, h4.trans h137.symm, w, p, g1, g2, g3, g4, fun i hi => ?_⟩
  rw [h38] at hi
  have hi5 : i < 5 := by
    have := hi
    rw [en, show iv (nI n) = n from nI_clamp (by omega)] at this
    omega
  obtain ⟨u1, u2⟩ := g5 i hi
  exact ⟨u1.trans (h47 (2 * i) (by omega)).symm, u2.trans (h47 (2 * i + 1) (by omega)).symm⟩
/-- the scales and accessorials of a version by its own addresses -/
theorem RelV.in {S : HS} {M : Nat → Prop} {x v : Nat} {μ : Nat → Int32} {a : Nat → Nat} (hV : RelV S M x μ v) (hO : OwV S x a) : (∀ i, i < iv (μ (274 + 510 * v + 1)) → hA S (a 1) i = μ (274 + 510 * v + 2 + 3 * i) ∧ hA S (a 2) i = μ (274 + 510 * v + 2 + 3 * i + 1) ∧ hA S (a 3) i = μ (274 + 510 * v + 2 + 3 * i + 2)) ∧ (∀ z, z < 9 → RelSc S M (a (6 + 3 * z)) μ v (z + 1)) ∧ (∀ b, b < 10 → (μ (274 + 510 * v + 150 + 36 * b) = 0 ∧ hB S (a 5) b = none) ∨ (μ (274 + 510 * v + 150 + 36 * b) = 1 ∧ ∃ y, hB S (a 5) b = some y ∧ RelA S M y μ v b)) ∧ (∀ i, i < 6 → ¬ M (a i)) ∧ hN S (a 1) = 12 ∧ hN S (a 2) = 12 ∧ hN S (a 3) = 12 ∧ hN S (a 4) = 9 ∧ hN S (a 5) = 10 := by
  obtain ⟨⟨h1, h2, h3, h4, h6, h7, h8, h9⟩, ⟨fa, t, zz, r1, r2, r3, z1, z2, z3, hh⟩, ⟨sc, r4, z4, hs⟩, ⟨ac, r5, z5, ha⟩⟩ := hV
  obtain ⟨o0, o1, o2, o3, o4, o5, o6, o7, o8⟩ := hO
  have q1 : fa = a 1 := Option.some.inj (r1.symm.trans o1)
  have q2 : t = a 2 := Option.some.inj (r2.symm.trans o2)
  have q3 : zz = a 3 := Option.some.inj (r3.symm.trans o3)
  have q4 : sc = a 4 := Option.some.inj (r4.symm.trans o4)
  have q5 : ac = a 5 := Option.some.inj (r5.symm.trans o5)
  subst q1 q2 q3 q4 q5
  refine ⟨hh, fun z hz => ?_, ha, fun i hi => ?_, z1.2.1, z2.2.1, z3.2.1, z4.2.1, z5.2.1⟩
  · obtain ⟨u, u1, u2⟩ := hs z hz
    have e : a (6 + 3 * z) = u := Option.some.inj ((o6 z hz).1.symm.trans u1)
    rw [e]
    exact u2
  · match i, hi with
    | 0, _ => rw [o0]; exact h2
    | 1, _ => exact z1.2.2
    | 2, _ => exact z2.2.2
    | 3, _ => exact z3.2.2
    | 4, _ => exact z4.2.2
    | 5, _ => exact z5.2.2
theorem RelV.of {S S1 : HS} {M : Nat → Prop} {x v : Nat} {μ μ' : Nat → Int32} {a : Nat → Nat} (hV : RelV S M x μ v) (hO : OwV S x a) (hk : hK S1 = hK S) (hn : hN S1 = hN S) (hr : hR S1 = hR S) (hh : hI S1 200 x = μ' (274 + 510 * v) ∧ hI S1 201 x = μ' (274 + 510 * v + 1) ∧ hI S1 206 x = μ' (274 + 510 * v + 146) ∧ hI S1 207 x = μ' (274 + 510 * v + 147) ∧ hI S1 208 x = μ' (274 + 510 * v + 148) ∧ hI S1 209 x = μ' (274 + 510 * v + 149)) (hg : ∀ i, i < iv (μ' (274 + 510 * v + 1)) → hA S1 (a 1) i = μ' (274 + 510 * v + 2 + 3 * i) ∧ hA S1 (a 2) i = μ' (274 + 510 * v + 2 + 3 * i + 1) ∧ hA S1 (a 3) i = μ' (274 + 510 * v + 2 + 3 * i + 2)) (hs : hB S1 (a 4) = hB S (a 4)) (hz : ∀ z, z < 9 → RelSc S1 M (a (6 + 3 * z)) μ' v (z + 1)) (ha : ∀ b, b < 10 → (μ' (274 + 510 * v + 150 + 36 * b) = 0 ∧ hB S1 (a 5) b = none) ∨ (μ' (274 + 510 * v + 150 + 36 * b) = 1 ∧ ∃ y, hB S1 (a 5) b = some y ∧ RelA S1 M y μ' v b)) : RelV S1 M x μ' v := by
  obtain ⟨_, _, _, i4, i5, i6, i7, i8, i9⟩ := hV.in hO
  obtain ⟨o0, o1, o2, o3, o4, o5, o6, o7, o8⟩ := hO
  have fz9 : ∀ {i k n : Nat}, i < 6 → okd i = k → hN S (a i) = n → fz S1 M (a i) k n := fun hi h1 h2 => ⟨by rw [hk, o7 _ (by omega)]; exact h1, by rw [hn]; exact h2, i4 _ hi⟩
  obtain ⟨h1, h2, h3, h4, h5, h6⟩ := hh
  refine ⟨⟨by rw [hk, ← o0, o7 0 (by omega)]; rfl, by rw [← o0]; exact i4 0 (by omega), h1, h2, h3, h4, h5, h6⟩, ⟨a 1, a 2, a 3, by rw [hr]; exact o1, by rw [hr]; exact o2, by rw [hr]; exact o3, fz9 (by omega) rfl i5, fz9 (by omega) rfl i6, fz9 (by omega) rfl i7, hg⟩, ⟨a 4, by rw [hr]; exact o4, fz9 (by omega) rfl i8, fun z hz9 => ⟨a (6 + 3 * z), by rw [hs]; exact (o6 z hz9).1, hz z hz9⟩⟩, ⟨a 5, by rw [hr]; exact o5, fz9 (by omega) rfl i9, ha⟩⟩
theorem OwV.sa {S S1 : HS} {x : Nat} {a : Nat → Nat} {N : Nat → Prop} (h : OwV S x a) (hf : frM S S1 N) {i : Nat} (hi : i < 33) (hn : ¬ N (a i)) : sam S S1 (a i) := hf _ hn (by
  have := okd_n (h.2.2.2.2.2.2.2.1 i hi).symm
  omega)
theorem OwV.scs {S S1 : HS} {M : Nat → Prop} {x v z : Nat} {μ : Nat → Int32} {a : Nat → Nat} (h : OwV S x a) (hz : z < 9) (hr : RelSc S M (a (6 + 3 * z)) μ v (z + 1)) (s1 : sam S S1 (a (6 + 3 * z))) (s2 : sam S S1 (a (7 + 3 * z))) (s3 : sam S S1 (a (8 + 3 * z))) : RelSc S1 M (a (6 + 3 * z)) μ v (z + 1) := by
  obtain ⟨_, w2, w3⟩ := h.2.2.2.2.2.2.1 z hz
  exact hr.sx s1 (fun b hb => by rw [w2] at hb; rw [← Option.some.inj hb]; exact s2) (fun b hb => by rw [w3] at hb; rw [← Option.some.inj hb]; exact s3)
/-- the accessorials are kept -/
theorem OwV.acs {S S1 : HS} {M : Nat → Prop} {x v : Nat} {μ μ' : Nat → Int32} {a : Nat → Nat} (h : OwV S x a) (hV : RelV S M x μ v) (hf : frM S S1 (owA a)) {b : Nat} (hb : b < 10) (hB9 : hB S1 (a 5) b = hB S (a 5) b) (hm : ∀ k, k < 36 → μ' (274 + 510 * v + 150 + 36 * b + k) = μ (274 + 510 * v + 150 + 36 * b + k)) (h30 : iv (μ (274 + 510 * v + 150 + 36 * b + 4)) ≤ 30) : (μ' (274 + 510 * v + 150 + 36 * b) = 0 ∧ hB S1 (a 5) b = none) ∨ (μ' (274 + 510 * v + 150 + 36 * b) = 1 ∧ ∃ y, hB S1 (a 5) b = some y ∧ RelA S1 M y μ' v b) := by
  have e0 := hm 0 (by omega)
  rw [Nat.add_zero] at e0
  rw [e0, hB9]
  rcases (hV.in h).2.2.1 b hb with h1 | ⟨u1, u, u2, u3⟩
  · exact Or.inl h1
  · exact Or.inr ⟨u1, u, u2, (u3.km (fun b9 hb9 => h.ac hf hb9)).cg hm h30⟩
theorem WF.b5 {μ : Nat → Int32} (hw : WF μ) {v : Nat} (hv : v < 6) : ∀ z, 1 ≤ z → z ≤ 9 → sm μ (274 + 510 * v + 38 + z - 1) 5 := fun _ z1 z9 => hw.brk hv z1 z9
/-- one scale differs -/
theorem RelV.s1 {S S1 : HS} {M : Nat → Prop} {x v z : Nat} {μ μ' : Nat → Int32} {a : Nat → Nat} (hw : WF μ) (hv : v < 6) (hV : RelV S M x μ v) (hO : OwV S x a) (hz : z < 9) (hF : frA S S1 (a (6 + 3 * z)) (a (7 + 3 * z)) (a (8 + 3 * z)) ∨ ∃ y, S1 = putI S 103 (a (6 + 3 * z)) y) (hS : RelSc S1 M (a (6 + 3 * z)) μ' v (z + 1)) (hm : ∀ k, k < 510 → (k < 38 ∨ 146 ≤ k ∨ (k < 47 ∧ k ≠ 38 + z) ∨ (47 ≤ k ∧ k < 137 ∧ (k < 47 + 10 * z ∨ 57 + 10 * z ≤ k)) ∨ (137 ≤ k ∧ k ≠ 137 + z)) → μ' (274 + 510 * v + k) = μ (274 + 510 * v + k)) : RelV S1 M x μ' v ∧ vmP S S1 x a := by
  have hf : frM S S1 (fun b => b = a (6 + 3 * z) ∨ b = a (7 + 3 * z) ∨ b = a (8 + 3 * z)) ∧ hK S1 = hK S ∧ hN S1 = hN S ∧ hR S1 = hR S ∧ hB S1 = hB S := by
    rcases hF with ⟨f1, f2, f3, f4, f5, f6⟩ | ⟨y, e⟩
    · refine ⟨fun b hb _ => ⟨by rw [f1], by rw [f2], fun i => f5 i b (fun q => hb (Or.inl q.1)), fun i => by rw [f3], f6 b (fun q => hb (Or.inr (Or.inl q))) (fun q => hb (Or.inr (Or.inr q))), by rw [f4]⟩, f1, f2, f3, f4⟩
    · rw [e]
      exact ⟨frM.rf.pI (Or.inl rfl) _ _, by simp only [px_KI, px_KR, px_KA, px_KB, px_KO, px_KW, px_KC, px_NI, px_NR, px_NA, px_NB, px_NO, px_NW, px_NC, px_II, px_IR, px_IA, px_IB, px_IO, px_IW, px_IC, px_RI, px_RR, px_RA, px_RB, px_RO, px_RW, px_RC, px_AI, px_AR, px_AA, px_AB, px_AO, px_AW, px_AC, px_BI, px_BR, px_BA, px_BB, px_BO, px_BW, px_BC], by simp only [px_KI, px_KR, px_KA, px_KB, px_KO, px_KW, px_KC, px_NI, px_NR, px_NA, px_NB, px_NO, px_NW, px_NC, px_II, px_IR, px_IA, px_IB, px_IO, px_IW, px_IC, px_RI, px_RR, px_RA, px_RB, px_RO, px_RW, px_RC, px_AI, px_AR, px_AA, px_AB, px_AO, px_AW, px_AC, px_BI, px_BR, px_BA, px_BB, px_BO, px_BW, px_BC], by simp only [px_KI, px_KR, px_KA, px_KB, px_KO, px_KW, px_KC, px_NI, px_NR, px_NA, px_NB, px_NO, px_NW, px_NC, px_II, px_IR, px_IA, px_IB, px_IO, px_IW, px_IC, px_RI, px_RR, px_RA, px_RB, px_RO, px_RW, px_RC, px_AI, px_AR, px_AA, px_AB, px_AO, px_AW, px_AC, px_BI, px_BR, px_BA, px_BB, px_BO, px_BW, px_BC], by simp only [px_KI, px_KR, px_KA, px_KB, px_KO, px_KW, px_KC, px_NI, px_NR, px_NA, px_NB, px_NO, px_NW, px_NC, px_II, px_IR, px_IA, px_IB, px_IO, px_IW, px_IC, px_RI, px_RR, px_RA, px_RB, px_RO, px_RW, px_RC, px_AI, px_AR, px_AA, px_AB, px_AO, px_AW, px_AC, px_BI, px_BR, px_BA, px_BB, px_BO, px_BW, px_BC]⟩
  obtain ⟨hf, hk, hn, hr, hb⟩ := hf
  have e0 : ∀ {a b k : Nat}, a = 274 + 510 * v + k → b = 274 + 510 * v + k → k < 510 → (k < 38 ∨ 146 ≤ k ∨ (k < 47 ∧ k ≠ 38 + z) ∨ (47 ≤ k ∧ k < 137 ∧ (k < 47 + 10 * z ∨ 57 + 10 * z ≤ k)) ∨ (137 ≤ k ∧ k ≠ 137 + z)) → μ' a = μ b := fun ha hb hk h38 => by rw [ha, hb]; exact hm _ hk h38
  have sa : ∀ i, i < 33 → i ≠ 6 + 3 * z → i ≠ 7 + 3 * z → i ≠ 8 + 3 * z → sam S S1 (a i) := fun i hi h1 h2 h3 => hO.sa hf hi (fun q => by
    rcases q with q | q | q
    · exact hO.ne hi (by omega) h1 q
    · exact hO.ne hi (by omega) h2 q
    · exact hO.ne hi (by omega) h3 q)
  have fo : frM S S1 (owA a) := hf.sub (fun b hb => by
    rcases hb with q | q | q
    · exact ⟨_, by omega, q⟩
    · exact ⟨_, by omega, q⟩
    · exact ⟨_, by omega, q⟩)
  have hV0 := hV
  obtain ⟨⟨h1, h2, h3, h4, h6, h7, h8, h9⟩, _⟩ := hV
  obtain ⟨g1, g2, g3, _⟩ := hV0.in hO
  have s0 := sa 0 (by omega) (by omega) (by omega) (by omega)
  rw [hO.1] at s0
  obtain ⟨n, hn12, en⟩ := hw.rng hv
  have i1 : iv (μ (274 + 510 * v + 1)) = n := by rw [en]; exact nI_clamp (by omega)
  refine ⟨hV0.of hO hk hn hr ⟨?_, ?_, ?_, ?_, ?_, ?_⟩ (fun i hi => ?_) (by rw [hb]) (fun z9 hz9 => ?_) (fun b hb9 => hO.acs hV0 fo hb9 (by rw [hb]) (fun k hk9 => e0 (k := 150 + 36 * b + k) (by omega) (by omega) (by omega) (by omega)) (hw.v30 hv b hb9)), fo, hO.up (fun i _ => by rw [hk]) (fun i => by rw [hr]) (by rw [hb]) (fun i z _ => by rw [hr])⟩
  · rw [s0.2.2.1, h3]; exact (hm 0 (by omega) (by omega)).symm
  · rw [s0.2.2.1, h4]; exact (hm 1 (by omega) (by omega)).symm
  · rw [s0.2.2.1, h6]; exact (hm 146 (by omega) (by omega)).symm
  · rw [s0.2.2.1, h7]; exact (hm 147 (by omega) (by omega)).symm
  · rw [s0.2.2.1, h8]; exact (hm 148 (by omega) (by omega)).symm
  · rw [s0.2.2.1, h9]; exact (hm 149 (by omega) (by omega)).symm
  · rw [hm 1 (by omega) (by omega)] at hi
    have hi9 := hi
    rw [i1] at hi9
    rw [(sa 1 (by omega) (by omega) (by omega) (by omega)).2.2.2.2.1, (sa 2 (by omega) (by omega) (by omega) (by omega)).2.2.2.2.1, (sa 3 (by omega) (by omega) (by omega) (by omega)).2.2.2.2.1, e0 (a := 274 + 510 * v + 2 + 3 * i) (b := 274 + 510 * v + 2 + 3 * i) (k := 2 + 3 * i) (by omega) (by omega) (by omega) (by omega), e0 (a := 274 + 510 * v + 2 + 3 * i + 1) (b := 274 + 510 * v + 2 + 3 * i + 1) (k := 2 + 3 * i + 1) (by omega) (by omega) (by omega) (by omega), e0 (a := 274 + 510 * v + 2 + 3 * i + 2) (b := 274 + 510 * v + 2 + 3 * i + 2) (k := 2 + 3 * i + 2) (by omega) (by omega) (by omega) (by omega)]
    exact g1 i hi
  · by_cases c : z9 = z
    · rw [c]; exact hS
    · refine (hO.scs hz9 (g2 z9 hz9) (sa _ (by omega) (by omega) (by omega) (by omega)) (sa _ (by omega) (by omega) (by omega) (by omega)) (sa _ (by omega) (by omega) (by omega) (by omega))).c1 ⟨by omega, by omega⟩ (e0 (k := 38 + z9) (by omega) (by omega) (by omega) (by omega)) (e0 (k := 137 + z9) (by omega) (by omega) (by omega) (by omega)) (fun k hk9 => e0 (k := 47 + 10 * z9 + k) (by omega) (by omega) (by omega) (by omega)) (hw.b5 hv _ (by omega) (by omega))
theorem k_X9_setMinimum (l : Launch) (D : va_G) (T : Nat → ClassId) (x0 : Nat) (p0 : Int32) (p1 : Int32) (S : HS) (e0 : (Nat → Prop)) (e1 : Nat → Int32) (e2 : Nat) (e3 : Nat → Nat) (hx0 : hK S x0 = 10) (h : ((WF e1 ∧ e2 < 6 ∧ RelV S e0 x0 e1 e2) ∧ OwV S x0 e3) ∧ zix p0) : CMi l yX9_setMinimum (ws_X9_setMinimum) rm_X9_setMinimum D T [.ref x0, .int p0, .int p1] S 0 0 (fun v S1 => (v = 1 ∧ (True → RelV S1 e0 x0 (upd e1 (274 + 510 * e2 + 137 + iv p0 - 1) p1) e2) ∧ vmP S S1 x0 e3)) := c_X9_setMinimum l D T x0 p0 p1 S hx0 _ <|
  (by
    obtain ⟨⟨⟨hw, hv, hV⟩, hO⟩, z, hz1, hz9, ez⟩ := h
    subst ez
    have iz : iv (nI z) = z := nI_clamp (by omega)
    obtain ⟨o0, o1, o2, o3, o4, o5, o6, o7, o8⟩ := hO
    have hO : OwV S x0 e3 := ⟨o0, o1, o2, o3, o4, o5, o6, o7, o8⟩
    have hin : ¬ zin (nI z) 1 9 = 0 := by
      rw [zin_0]
      refine ⟨?_, ?_⟩
      · rw [show (1 : Int32) = nI 1 from rfl, nI_leI (by decide) (by omega)]; exact hz1
      · rw [show (9 : Int32) = nI 9 from rfl, nI_leI (by omega) (by decide)]; exact hz9
    unfold wp_X9_setMinimum
    refine ⟨e0, e1, e2, ⟨hw, hv, hV⟩, fun o S5 _ _ h5 => ?_⟩
    obtain ⟨eS, _, h6⟩ := h5
    subst eS
    obtain ⟨y, ey, hSc, sc, r205, hb⟩ := h6 hin
    rw [iz] at hSc hb ⊢
    have esc : sc = e3 4 := Option.some.inj (r205.symm.trans o4)
    rw [esc] at hb
    have ey2 : e3 (6 + 3 * (z - 1)) = y := Option.some.inj ((o6 (z - 1) (by omega)).1.symm.trans hb)
    refine ⟨fun e => (by rw [ey] at e; cases e), fun b hb9 _ S16 e16 => ?_⟩
    have eb : y = b := Option.some.inj (ey.symm.trans hb9)
    subst eb
    have key := hV.s1 (z := z - 1) (S1 := S16) (μ' := upd e1 (274 + 510 * e2 + 137 + z - 1) p1) hw hv hO (by omega) (Or.inr ⟨p1, by rw [ey2]; exact e16⟩) ?_ ?_
    · exact ⟨rfl, fun _ => key.1, key.2⟩
    · rw [ey2, show z - 1 + 1 = z by omega]
      obtain ⟨k1, k2, k3, k4, w, p, g1, g2, g3, g4, g5⟩ := hSc
      rw [e16]
      have u38 : upd e1 (274 + 510 * e2 + 137 + z - 1) p1 (274 + 510 * e2 + 38 + z - 1) = e1 (274 + 510 * e2 + 38 + z - 1) := by unfold upd; rw [if_neg (by omega)]
      obtain ⟨n, hn, en⟩ := hw.brk hv hz1 hz9
      refine ⟨by simp only [px_KI, px_KR, px_KA, px_KB, px_KO, px_KW, px_KC, px_NI, px_NR, px_NA, px_NB, px_NO, px_NW, px_NC, px_II, px_IR, px_IA, px_IB, px_IO, px_IW, px_IC, px_RI, px_RR, px_RA, px_RB, px_RO, px_RW, px_RC, px_AI, px_AR, px_AA, px_AB, px_AO, px_AW, px_AC, px_BI, px_BR, px_BA, px_BB, px_BO, px_BW, px_BC]; exact k1, k2, ?_, ?_, w, p, by simp only [px_KI, px_KR, px_KA, px_KB, px_KO, px_KW, px_KC, px_NI, px_NR, px_NA, px_NB, px_NO, px_NW, px_NC, px_II, px_IR, px_IA, px_IB, px_IO, px_IW, px_IC, px_RI, px_RR, px_RA, px_RB, px_RO, px_RW, px_RC, px_AI, px_AR, px_AA, px_AB, px_AO, px_AW, px_AC, px_BI, px_BR, px_BA, px_BB, px_BO, px_BW, px_BC]; exact g1, by simp only [px_KI, px_KR, px_KA, px_KB, px_KO, px_KW, px_KC, px_NI, px_NR, px_NA, px_NB, px_NO, px_NW, px_NC, px_II, px_IR, px_IA, px_IB, px_IO, px_IW, px_IC, px_RI, px_RR, px_RA, px_RB, px_RO, px_RW, px_RC, px_AI, px_AR, px_AA, px_AB, px_AO, px_AW, px_AC, px_BI, px_BR, px_BA, px_BB, px_BO, px_BW, px_BC]; exact g2, ⟨by simp only [px_KI, px_KR, px_KA, px_KB, px_KO, px_KW, px_KC, px_NI, px_NR, px_NA, px_NB, px_NO, px_NW, px_NC, px_II, px_IR, px_IA, px_IB, px_IO, px_IW, px_IC, px_RI, px_RR, px_RA, px_RB, px_RO, px_RW, px_RC, px_AI, px_AR, px_AA, px_AB, px_AO, px_AW, px_AC, px_BI, px_BR, px_BA, px_BB, px_BO, px_BW, px_BC]; exact g3.1, by simp only [px_KI, px_KR, px_KA, px_KB, px_KO, px_KW, px_KC, px_NI, px_NR, px_NA, px_NB, px_NO, px_NW, px_NC, px_II, px_IR, px_IA, px_IB, px_IO, px_IW, px_IC, px_RI, px_RR, px_RA, px_RB, px_RO, px_RW, px_RC, px_AI, px_AR, px_AA, px_AB, px_AO, px_AW, px_AC, px_BI, px_BR, px_BA, px_BB, px_BO, px_BW, px_BC]; exact g3.2.1, g3.2.2⟩, ⟨by simp only [px_KI, px_KR, px_KA, px_KB, px_KO, px_KW, px_KC, px_NI, px_NR, px_NA, px_NB, px_NO, px_NW, px_NC, px_II, px_IR, px_IA, px_IB, px_IO, px_IW, px_IC, px_RI, px_RR, px_RA, px_RB, px_RO, px_RW, px_RC, px_AI, px_AR, px_AA, px_AB, px_AO, px_AW, px_AC, px_BI, px_BR, px_BA, px_BB, px_BO, px_BW, px_BC]; exact g4.1, by simp only [px_KI, px_KR, px_KA, px_KB, px_KO, px_KW, px_KC, px_NI, px_NR, px_NA, px_NB, px_NO, px_NW, px_NC, px_II, px_IR, px_IA, px_IB, px_IO, px_IW, px_IC, px_RI, px_RR, px_RA, px_RB, px_RO, px_RW, px_RC, px_AI, px_AR, px_AA, px_AB, px_AO, px_AW, px_AC, px_BI, px_BR, px_BA, px_BB, px_BO, px_BW, px_BC]; exact g4.2.1, g4.2.2⟩, fun i hi => ?_⟩
      · rw [u38, px_II, if_neg (fun q => absurd q.1 (by decide))]; exact k3
      · rw [putI_s]; unfold upd; rw [if_pos rfl]
      · rw [u38] at hi
        have hi5 : i < 5 := by
          have := hi
          rw [en, show iv (nI n) = n from nI_clamp (by omega)] at this
          omega
        simp only [px_KI, px_KR, px_KA, px_KB, px_KO, px_KW, px_KC, px_NI, px_NR, px_NA, px_NB, px_NO, px_NW, px_NC, px_II, px_IR, px_IA, px_IB, px_IO, px_IW, px_IC, px_RI, px_RR, px_RA, px_RB, px_RO, px_RW, px_RC, px_AI, px_AR, px_AA, px_AB, px_AO, px_AW, px_AC, px_BI, px_BR, px_BA, px_BB, px_BO, px_BW, px_BC]
        unfold upd
        rw [if_neg (by omega), if_neg (by omega)]
        exact g5 i hi
    · intro k hk h9
      unfold upd
      rw [if_neg (by omega)])
abbrev ws_X9_putBreak : List Cond := Cond.code yX9_putBreak cX9_putBreak 5 (some .boolean) :: W0
abbrev rm_X9_putBreak : Room := ({ frames := 2, cells := 0, slots := 0, locals := 46 } : Room)
def wp_X9_putBreak (P : Int32 → HS → Prop) (x0 : Nat) (p0 : Int32) (p1 : Int32) (p2 : Int32) (S : HS) : Prop := ∃ (m1 : (Nat → Prop)) (m2 : Nat → Int32) (m3 : Nat), ((WF m2 ∧ m3 < 6 ∧ RelV S m1 x0 m2 m3) ∧ (∀ (o10 : Option Nat) (S5 : HS), ext S S5 → (∀ b, o10 = some b → hK S5 b = 5) → (S5 = S ∧ (zin p0 1 9 = 0 → o10 = none) ∧ (¬ zin p0 1 9 = 0 → ∃ y, o10 = some y ∧ RelSc S m1 y m2 m3 (iv p0) ∧ ∃ sc, hR S 205 x0 = some sc ∧ hB S sc (iv p0 - 1) = some y)) → ((o10 = none → (P 0 S5)) ∧ (∀ b13 : Nat, o10 = some b13 → hK S5 b13 = 5 → (∃ (m15 : (Nat → Prop)) (m16 : Nat → Int32) (m17 : Nat) (m18 : Nat), ((RelSc S5 m15 b13 m16 m17 m18 ∧ 1 ≤ m18 ∧ m18 ≤ 9 ∧ sm m16 (274 + 510 * m17 + 38 + m18 - 1) 5 ∧ (∀ w p, hR S5 101 b13 = some w → hR S5 102 b13 = some p → w ≠ p) ∧ bn p2 9999) ∧ (∀ (v25 : Int32) (S20 : HS), ext S5 S20 → (v25 = b2i (bkB m16 m17 m18 p1 p2) ∧ (bkB m16 m17 m18 p1 p2 = true → RelSc S20 m15 b13 (bkS m16 m17 m18 p1 p2) m17 m18) ∧ ∃ w p, hR S5 101 b13 = some w ∧ hR S5 102 b13 = some p ∧ frA S5 S20 b13 w p) → ((v25 = 0 → (P 0 S20)) ∧ (¬ v25 = 0 → (P 1 S20))))))))))
set_option maxRecDepth 100000 in
set_option maxHeartbeats 4000000 in
theorem t_X9_putBreak {p : Program} {l : Launch} {e : Env} {s : State} {m : MethodId} {args : Array Value} {below : List Frame} {meth : Method} {c : Code} {D : va_G} {A : Nat → Prop} {T : Nat → ClassId} (C : GC p s m args meth c cX9_putBreak "FreightRater$Version" (ws_X9_putBreak) 5 D A (zty T)) (E : GE T A s) (hr : meth.sig.returnType = (some .boolean)) (P : Int32 → HS → Prop) : ∀ (x0 : Nat) (p0 : Int32) (p1 : Int32) (p2 : Int32) (S0 S : HS) (L : List Nat), S0 = S → wt S → hL S L → (hK S x0 = 10) → wp_X9_putBreak P x0 p0 p1 p2 S → GW p l e { rm_X9_putBreak with cells := 0, slots := 0 } s m args below meth c D A 5 0 0 (MQ below (va_Qi (fun v (u : HS × List Nat) => P v u.1 ∧ CO S0 u) (CE D T A) A) args s 0 0 A) (CW T S L) 0 0 0 [(0, .ref x0), (1, .int p0), (2, .int p1), (3, .int p2)] [] := by
  have hW : ∀ {w : Cond}, w ∈ W0 → w.before args s = true := fun h => C.2.2.2.2.1 _ (List.mem_cons_of_mem _ h)
  intro x0 p0 p1 p2 S0 S L hS0 hw hL hx0 h
  have he : ext S0 S := by rw [hS0]; exact ext_rf
  unfold wp_X9_putBreak at h
  refine g_aload_n C dX9_putBreak_0 rfl 0 rfl ?_
  refine g_iload_n C dX9_putBreak_1 rfl 1 rfl ?_
  obtain ⟨m1, m2, m3, h⟩ := h
  obtain ⟨g4, h⟩ := h
  refine gc_callqV (host := "") C E hw hL hx0 (by decide) (by decide) rfl [.int p0] rfl (k_X9_scaleOf l D T x0 p0 S m1 m2 m3 hx0 g4) (w0_V 1 C.2.2.2.2.1 kw_906 kw_907 kw_908 kw_14 kw_909 rfl rfl (by decide +kernel) ⟨Nat.le_of_ble_eq_true rfl, Nat.le_of_ble_eq_true rfl⟩) rfl (Nat.le_of_ble_eq_true rfl) (Nat.le_refl _) (Nat.le_refl _) (Nat.zero_le _) (Nat.zero_le _) dX9_putBreak_2 (fun o10 S5 L6 e7 w8 w9 ko10 hp => ?_)
  replace h := h o10 S5 e7 ko10 hp
  have g11 := ext_K e7 hx0 (by decide)
  have w12 := ext_tr he e7
  refine g_qstore (lv' := [(4, va_rf o10), (0, .ref x0), (1, .int p0), (2, .int p1), (3, .int p2)]) C dX9_putBreak_5 (by decide) rfl ?_
  refine g_qload C dX9_putBreak_7 0 rfl ?_
  rcases o10 with _ | b13
  · replace h := h.1 rfl
    refine g_ifnullN (tgt := 26) C dX9_putBreak_9 (by decide) ?_
    refine g_iconst (v := 0) C dX9_putBreak_26 (by decide) ?_
    exact gc_zret C vz0 w8 w9 w12 hr dX9_putBreak_27 h
  · have g14 : hK S5 b13 = 5 := ko10 b13 rfl
    replace h := h.2 b13 rfl g14
    refine g_ifnull C dX9_putBreak_9 ?_
    refine g_aload C dX9_putBreak_12 0 rfl ?_
    refine g_iload_n C dX9_putBreak_14 rfl 3 rfl ?_
    refine g_iload_n C dX9_putBreak_15 rfl 4 rfl ?_
    obtain ⟨m15, m16, m17, m18, h⟩ := h
    obtain ⟨g19, h⟩ := h
    refine gc_calliV (host := "") C E w8 w9 g14 (by decide) (by decide) rfl [.int p1, .int p2] rfl (k_X4_putBreak l D T b13 p1 p2 S5 m15 m16 m17 m18 g14 g19) (w0_V 2 C.2.2.2.2.1 kw_911 kw_912 kw_913 kw_15 kw_914 rfl rfl (by decide +kernel) ⟨Nat.le_of_ble_eq_true rfl, Nat.le_of_ble_eq_true rfl⟩) rfl (Nat.le_of_ble_eq_true rfl) (Nat.le_refl _) (Nat.le_refl _) (Nat.zero_le _) (Nat.zero_le _) dX9_putBreak_16 (fun v25 S20 L21 e22 w23 w24 hp => ?_)
    replace h := h v25 S20 e22 hp
    have g26 := ext_K e22 g14 (by decide)
    have g27 := ext_K e22 g11 (by decide)
    have w28 := ext_tr w12 e22
    refine g_if_eq (tgt := 26) C dX9_putBreak_19 (by decide) (fun z29 => ?_) (fun z29 => ?_)
    · replace h := h.1 z29
      refine g_iconst (v := 0) C dX9_putBreak_26 (by decide) ?_
      exact gc_zret C vz0 w23 w24 w28 hr dX9_putBreak_27 h
    · replace h := h.2 z29
      refine g_iconst (v := 1) C dX9_putBreak_22 (by decide) ?_
      refine g_goto (tgt := 27) C dX9_putBreak_23 (by decide) ?_
      exact gc_zret C vz1 w23 w24 w28 hr dX9_putBreak_27 h
theorem c_X9_putBreak (l : Launch) (D : va_G) (T : Nat → ClassId) (x0 : Nat) (p0 : Int32) (p1 : Int32) (p2 : Int32) (S : HS) (hx0 : hK S x0 = 10) (P : Int32 → HS → Prop) (h : wp_X9_putBreak P x0 p0 p1 p2 S) : CMi l yX9_putBreak (ws_X9_putBreak) rm_X9_putBreak D T [.ref x0, .int p0, .int p1, .int p2] S 0 0 P := gc_meti (by decide) rfl rfl (Nat.le_of_ble_eq_true rfl) (fun p e s m args below meth c A L C E hnm hr hw hL => t_X9_putBreak C E   hr P x0 p0 p1 p2 S S L rfl hw hL hx0 h)
theorem k_X9_putBreak (l : Launch) (D : va_G) (T : Nat → ClassId) (x0 : Nat) (p0 : Int32) (p1 : Int32) (p2 : Int32) (S : HS) (e0 : (Nat → Prop)) (e1 : Nat → Int32) (e2 : Nat) (e3 : Nat → Nat) (hx0 : hK S x0 = 10) (h : ((WF e1 ∧ e2 < 6 ∧ RelV S e0 x0 e1 e2) ∧ OwV S x0 e3) ∧ zix p0 ∧ bn p2 9999) : CMi l yX9_putBreak (ws_X9_putBreak) rm_X9_putBreak D T [.ref x0, .int p0, .int p1, .int p2] S 0 0 (fun v S1 => (v = b2i (bkB e1 e2 (iv p0) p1 p2) ∧ (bkB e1 e2 (iv p0) p1 p2 = true → RelV S1 e0 x0 (bkS e1 e2 (iv p0) p1 p2) e2) ∧ vmP S S1 x0 e3)) := c_X9_putBreak l D T x0 p0 p1 p2 S hx0 _ <|
  (by
    obtain ⟨⟨⟨hw, hv, hV⟩, hO⟩, ⟨z, hz1, hz9, ez⟩, hy⟩ := h
    subst ez
    have iz : iv (nI z) = z := nI_clamp (by omega)
    obtain ⟨o0, o1, o2, o3, o4, o5, o6, o7, o8⟩ := hO
    have hO : OwV S x0 e3 := ⟨o0, o1, o2, o3, o4, o5, o6, o7, o8⟩
    have hin : ¬ zin (nI z) 1 9 = 0 := by
      rw [zin_0]
      refine ⟨?_, ?_⟩
      · rw [show (1 : Int32) = nI 1 from rfl, nI_leI (by decide) (by omega)]; exact hz1
      · rw [show (9 : Int32) = nI 9 from rfl, nI_leI (by omega) (by decide)]; exact hz9
    unfold wp_X9_putBreak
    refine ⟨e0, e1, e2, ⟨hw, hv, hV⟩, fun o S5 _ _ h5 => ?_⟩
    obtain ⟨eS, _, h6⟩ := h5
    subst eS
    obtain ⟨y, ey, hSc, sc, r205, hb⟩ := h6 hin
    rw [iz] at hSc hb ⊢
    have esc : sc = e3 4 := Option.some.inj (r205.symm.trans o4)
    rw [esc] at hb
    obtain ⟨w1, w2, w3⟩ := o6 (z - 1) (by omega)
    have ey2 : e3 (6 + 3 * (z - 1)) = y := Option.some.inj (w1.symm.trans hb)
    refine ⟨fun e => (by rw [ey] at e; cases e), fun b hb9 _ => ?_⟩
    have eb : y = b := Option.some.inj (ey.symm.trans hb9)
    subst eb
    rw [ey2] at w2 w3
    refine ⟨e0, e1, e2, z, ⟨hSc, hz1, hz9, hw.brk hv hz1 hz9, fun w p e4 e5 q => ?_, hy⟩, fun v25 S20 _ h20 => ?_⟩
    · have q1 := Option.some.inj (w2.symm.trans e4)
      have q2 := Option.some.inj (w3.symm.trans e5)
      exact hO.ne (i := 7 + 3 * (z - 1)) (j := 8 + 3 * (z - 1)) (by omega) (by omega) (by omega) (by rw [q1, q2, q])
    · obtain ⟨ev, hR9, w, p, e4, e5, hF⟩ := h20
      have q1 := Option.some.inj (w2.symm.trans e4)
      have q2 := Option.some.inj (w3.symm.trans e5)
      have hF' : frA S5 S20 (e3 (6 + 3 * (z - 1))) (e3 (7 + 3 * (z - 1))) (e3 (8 + 3 * (z - 1))) := by rw [ey2, q1, q2]; exact hF
      have fo : vmP S5 S20 x0 e3 := by
        obtain ⟨f1, f2, f3, f4, f5, f6⟩ := hF'
        refine ⟨fun b hb _ => ⟨by rw [f1], by rw [f2], fun i => f5 i b (fun q => hb ⟨_, by omega, q.1⟩), fun i => by rw [f3], f6 b (fun q => hb ⟨_, by omega, q⟩) (fun q => hb ⟨_, by omega, q⟩), by rw [f4]⟩, hO.up (fun i _ => by rw [f1]) (fun i => by rw [f3]) (by rw [f4]) (fun i z _ => by rw [f3])⟩
      have ok : bkB e1 e2 z p1 p2 = true → RelV S20 e0 x0 (bkS e1 e2 z p1 p2) e2 := fun e => by
        refine (hV.s1 (z := z - 1) hw hv hO (by omega) (Or.inl hF') ?_ (fun k hk h9 => ?_)).1
        · rw [ey2, show z - 1 + 1 = z by omega]; exact hR9 e
        · obtain ⟨c, hc, ec⟩ := hw.brk hv hz1 hz9
          exact bkS_o ec hc hz1 hz9 e hk (by omega)
      subst ev
      refine ⟨fun e => ⟨?_, ok, fo⟩, fun e => ⟨?_, ok, fo⟩⟩
      · rw [b2i_z e]; rfl
      · rw [b2i_nz e]; rfl)

end S_C5F
