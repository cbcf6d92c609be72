section S_C5G
abbrev ws_X9_removeAccessorial : List Cond := Cond.code yX9_removeAccessorial cX9_removeAccessorial 2 (some .boolean) :: W0
abbrev rm_X9_removeAccessorial : Room := ({ frames := 2, cells := 0, slots := 0, locals := 43 } : Room)
def wp_X9_removeAccessorial (P : Int32 → HS → Prop) (x0 : Nat) (p0 : Int32) (S : HS) : Prop := ∃ (m1 : (Nat → Prop)) (m2 : Nat → Int32) (m3 : Nat), ((WF m2 ∧ m3 < 6 ∧ RelV S m1 x0 m2 m3) ∧ (∀ (o10 : Option Nat) (S5 : HS), ext S S5 → (∀ b, o10 = some b → hK S5 b = 1) → (S5 = S ∧ (¬ acX m2 m3 p0 → o10 = none) ∧ (acX m2 m3 p0 → ∃ y, o10 = some y ∧ RelA S m1 y m2 m3 (iv p0))) → ((o10 = none → (P 0 S5)) ∧ (∀ b13 : Nat, o10 = some b13 → hK S5 b13 = 1 → (∃ b16 : Nat, hR S5 210 x0 = some b16 ∧ (hK S5 b16 = 25 → (vp_in p0 (hN S5 b16) ∧ (∀ S20 : HS, S20 = putB S5 b16 (Int32.toNatClampNeg p0) none → (P 1 S20)))))))))
set_option maxRecDepth 100000 in
set_option maxHeartbeats 4000000 in
theorem t_X9_removeAccessorial {p : Program} {l : Launch} {e : Env} {s : State} {m : MethodId} {args : Array Value} {below : List Frame} {meth : Method} {c : Code} {D : va_G} {A : Nat → Prop} {T : Nat → ClassId} (C : GC p s m args meth c cX9_removeAccessorial "FreightRater$Version" (ws_X9_removeAccessorial) 2 D A (zty T)) (E : GE T A s) (hr : meth.sig.returnType = (some .boolean)) (P : Int32 → HS → Prop) : ∀ (x0 : Nat) (p0 : Int32) (S0 S : HS) (L : List Nat), S0 = S → wt S → hL S L → (hK S x0 = 10) → wp_X9_removeAccessorial P x0 p0 S → GW p l e { rm_X9_removeAccessorial with cells := 0, slots := 0 } s m args below meth c D A 2 0 0 (MQ below (va_Qi (fun v (u : HS × List Nat) => P v u.1 ∧ CO S0 u) (CE D T A) A) args s 0 0 A) (CW T S L) 0 0 0 [(0, .ref x0), (1, .int p0)] [] := by
  have hW : ∀ {w : Cond}, w ∈ W0 → w.before args s = true := fun h => C.2.2.2.2.1 _ (List.mem_cons_of_mem _ h)
  intro x0 p0 S0 S L hS0 hw hL hx0 h
  have he : ext S0 S := by rw [hS0]; exact ext_rf
  unfold wp_X9_removeAccessorial at h
  refine g_aload_n C dX9_removeAccessorial_0 rfl 0 rfl ?_
  refine g_iload_n C dX9_removeAccessorial_1 rfl 1 rfl ?_
  obtain ⟨m1, m2, m3, h⟩ := h
  obtain ⟨g4, h⟩ := h
  refine gc_callqV (host := "") C E hw hL hx0 (by decide) (by decide) rfl [.int p0] rfl (k_X9_accessorialAt l D T x0 p0 S m1 m2 m3 hx0 g4) (w0_V 1 C.2.2.2.2.1 kw_939 kw_940 kw_941 kw_14 kw_942 rfl rfl (by decide +kernel) ⟨Nat.le_of_ble_eq_true rfl, Nat.le_of_ble_eq_true rfl⟩) rfl (Nat.le_of_ble_eq_true rfl) (Nat.le_refl _) (Nat.le_refl _) (Nat.zero_le _) (Nat.zero_le _) dX9_removeAccessorial_2 (fun o10 S5 L6 e7 w8 w9 ko10 hp => ?_)
  replace h := h o10 S5 e7 ko10 hp
  have g11 := ext_K e7 hx0 (by decide)
  have w12 := ext_tr he e7
  rcases o10 with _ | b13
  · replace h := h.1 rfl
    refine g_ifnonnullN C dX9_removeAccessorial_5 ?_
    refine g_iconst (v := 0) C dX9_removeAccessorial_8 (by decide) ?_
    exact gc_zret C vz0 w8 w9 w12 hr dX9_removeAccessorial_9 h
  · have g14 : hK S5 b13 = 1 := ko10 b13 rfl
    replace h := h.2 b13 rfl g14
    refine g_ifnonnull (tgt := 10) C dX9_removeAccessorial_5 (by decide) ?_
    refine g_aload_n C dX9_removeAccessorial_10 rfl 0 rfl ?_
    refine gc_getR C w8 iwx_X9 w9 g11 (by decide) (by decide) rfl 10 (by decide) (hW kw_435) rfl rfl rfl dX9_removeAccessorial_11 (fun o15 eo15 ko15 => ?_)
    obtain ⟨b16, hb9, h⟩ := h
    have g17 : hK S5 b16 = 25 := ko15 b16 (eo15.trans hb9)
    replace h := h g17
    refine g_opt (eo15.trans hb9) ?_
    refine g_iload_n C dX9_removeAccessorial_14 rfl 1 rfl ?_
    refine g_null C dX9_removeAccessorial_15 ?_
    obtain ⟨g18, h⟩ := h
    refine gc_aastN C w9 g17 (by decide) rfl g18 dX9_removeAccessorial_16 ?_
    have w19 := wt_putB w8 (Int32.toNatClampNeg p0) none (k_ne g17 (by decide)) (fun b hb => by cases hb)
    refine gc_nS (fun S20 eS20 => ?_)
    replace h := h S20 eS20
    have w21 : wt S20 := by rw [eS20]; exact w19
    have w22 : isL S20 L6 := by rw [eS20]; exact w9
    have w23 : ext S0 S20 := by rw [eS20]; exact w12
    have g24 : hK S20 x0 = 10 := by rw [eS20]; exact g11
    refine g_iconst (v := 1) C dX9_removeAccessorial_17 (by decide) ?_
    exact gc_zret C vz1 w21 w22 w23 hr dX9_removeAccessorial_18 h
theorem c_X9_removeAccessorial (l : Launch) (D : va_G) (T : Nat → ClassId) (x0 : Nat) (p0 : Int32) (S : HS) (hx0 : hK S x0 = 10) (P : Int32 → HS → Prop) (h : wp_X9_removeAccessorial P x0 p0 S) : CMi l yX9_removeAccessorial (ws_X9_removeAccessorial) rm_X9_removeAccessorial D T [.ref x0, .int p0] S 0 0 P := gc_meti (by decide) rfl rfl (Nat.le_of_ble_eq_true rfl) (fun p e s m args below meth c A L C E hnm hr hw hL => t_X9_removeAccessorial C E   hr P x0 p0 S S L rfl hw hL hx0 h)
theorem sef_v {μ : Nat → Int32} {v a : Nat} {x2 x3 rows tested excl : Int32} {tv : Nat → Int32} (k : Nat) : seF μ v a x2 x3 rows tested tv excl (274 + 510 * v + 150 + 36 * a + k) = if 6 ≤ k ∧ k < 36 then (if k - 6 < iv tested then tv (k - 6) else 0) else if k = 5 then excl else if k = 4 then tested else if k = 3 then rows else if k = 2 then x3 else if k = 1 then x2 else if k = 0 then 1 else μ (274 + 510 * v + 150 + 36 * a + k) := by
  unfold seF upd
  generalize 274 + 510 * v + 150 + 36 * a = A
  have c1 : (A + 6 ≤ A + k ∧ A + k < A + 36) = (6 ≤ k ∧ k < 36) := propext ⟨fun h => ⟨by omega, by omega⟩, fun h => ⟨by omega, by omega⟩⟩
  have c2 : A + k - (A + 6) = k - 6 := by omega
  have c3 : ∀ n, (A + k = A + n) = (k = n) := fun n => propext ⟨fun h => by omega, fun h => by omega⟩
  have c4 : (A + k = A) = (k = 0) := propext ⟨fun h => by omega, fun h => by omega⟩
  simp only [c1, c2, c3, c4]
theorem sef_1 {x2 x3 rows tested excl : Int32} {tv : Nat → Int32} : seF (fun _ => 0) 0 0 x2 x3 rows tested tv excl (274 + 510 * 0 + 150 + 36 * 0 + 1) = x2 ∧ seF (fun _ => 0) 0 0 x2 x3 rows tested tv excl (274 + 510 * 0 + 150 + 36 * 0 + 2) = x3 ∧ seF (fun _ => 0) 0 0 x2 x3 rows tested tv excl (274 + 510 * 0 + 150 + 36 * 0 + 4) = tested := by
  rw [sef_v, sef_v, sef_v]
  exact ⟨rfl, rfl, rfl⟩
theorem sef_c {μ : Nat → Int32} {v a : Nat} {x2 x3 rows tested excl : Int32} {tv : Nat → Int32} {k : Nat} (hk : k < 36) : seF μ v a x2 x3 rows tested tv excl (274 + 510 * v + 150 + 36 * a + k) = seF (fun _ => 0) 0 0 x2 x3 rows tested tv excl (274 + 510 * 0 + 150 + 36 * 0 + k) := by
  rw [sef_v, sef_v]
  by_cases c : 6 ≤ k ∧ k < 36
  · rw [if_pos c, if_pos c]
  · rw [if_neg c, if_neg c]
    by_cases h0 : k = 0
    · rw [h0]; rfl
    · simp only [if_neg h0]
      by_cases h1 : k = 1
      · rw [h1]; rfl
      · simp only [if_neg h1]
        by_cases h2 : k = 2
        · rw [h2]; rfl
        · simp only [if_neg h2]
          by_cases h3 : k = 3
          · rw [h3]; rfl
          · simp only [if_neg h3]
            by_cases h4 : k = 4
            · rw [h4]; rfl
            · rw [if_neg h4, if_neg h4, if_pos (by omega), if_pos (by omega)]
theorem sef_o {μ : Nat → Int32} {v a : Nat} {x2 x3 rows tested excl : Int32} {tv : Nat → Int32} {k : Nat} (hk : k < 274 + 510 * v + 150 + 36 * a ∨ 274 + 510 * v + 150 + 36 * a + 36 ≤ k) : seF μ v a x2 x3 rows tested tv excl k = μ k := by
  unfold seF upd
  rw [if_neg (by omega), if_neg (by omega), if_neg (by omega), if_neg (by omega), if_neg (by omega), if_neg (by omega), if_neg (by omega)]
/-- one accessorial differs -/
theorem RelV.a1 {S : HS} {M : Nat → Prop} {x v b : Nat} {μ μ' : Nat → Int32} {a : Nat → Nat} {o : Option Nat} (hw : WF μ) (hv : v < 6) (hV : RelV S M x μ v) (hO : OwV S x a) (hb : b < 10) (hm : ∀ k, k < 274 + 510 * v + 150 + 36 * b ∨ 274 + 510 * v + 150 + 36 * b + 36 ≤ k → μ' k = μ k) (ho : (μ' (274 + 510 * v + 150 + 36 * b) = 0 ∧ o = none) ∨ (μ' (274 + 510 * v + 150 + 36 * b) = 1 ∧ ∃ y, o = some y ∧ RelA S M y μ' v b)) : RelV (putB S (a 5) b o) M x μ' v ∧ vmP S (putB S (a 5) b o) x a := by
  have hf : frM S (putB S (a 5) b o) (fun c => c = a 5) := frM.pB (M := fun c => c = a 5) frM.rf rfl _ _
  have hk : hK (putB S (a 5) b o) = hK S := by simp only [px_KI, px_KR, px_KA, px_KB, px_KO, px_KW, px_KC, px_NI, px_NR, px_NA, px_NB, px_NO, px_NW, px_NC, px_II, px_IR, px_IA, px_IB, px_IO, px_IW, px_IC, px_RI, px_RR, px_RA, px_RB, px_RO, px_RW, px_RC, px_AI, px_AR, px_AA, px_AB, px_AO, px_AW, px_AC, px_BI, px_BR, px_BA, px_BB, px_BO, px_BW, px_BC]
  have hn : hN (putB S (a 5) b o) = hN S := by simp only [px_KI, px_KR, px_KA, px_KB, px_KO, px_KW, px_KC, px_NI, px_NR, px_NA, px_NB, px_NO, px_NW, px_NC, px_II, px_IR, px_IA, px_IB, px_IO, px_IW, px_IC, px_RI, px_RR, px_RA, px_RB, px_RO, px_RW, px_RC, px_AI, px_AR, px_AA, px_AB, px_AO, px_AW, px_AC, px_BI, px_BR, px_BA, px_BB, px_BO, px_BW, px_BC]
  have hr : hR (putB S (a 5) b o) = hR S := by simp only [px_KI, px_KR, px_KA, px_KB, px_KO, px_KW, px_KC, px_NI, px_NR, px_NA, px_NB, px_NO, px_NW, px_NC, px_II, px_IR, px_IA, px_IB, px_IO, px_IW, px_IC, px_RI, px_RR, px_RA, px_RB, px_RO, px_RW, px_RC, px_AI, px_AR, px_AA, px_AB, px_AO, px_AW, px_AC, px_BI, px_BR, px_BA, px_BB, px_BO, px_BW, px_BC]
  have sa : ∀ i, i < 33 → i ≠ 5 → sam S (putB S (a 5) b o) (a i) := fun i hi h1 => hO.sa hf hi (fun q => hO.ne hi (by omega) h1 q)
  have fo : frM S (putB S (a 5) b o) (owA a) := hf.sub (fun c hc => ⟨5, by omega, hc⟩)
  have hV0 := hV
  obtain ⟨⟨h1, h2, h3, h4, h6, h7, h8, h9⟩, _⟩ := hV
  obtain ⟨g1, g2, g3, _⟩ := hV0.in hO
  have s0 := sa 0 (by omega) (by omega)
  rw [hO.1] at s0
  refine ⟨hV0.of hO hk hn hr ⟨?_, ?_, ?_, ?_, ?_, ?_⟩ (fun i hi => ?_) (sa 4 (by omega) (by omega)).2.2.2.2.2 (fun z9 hz9 => ?_) (fun c hc9 => ?_), fo, hO.up (fun i _ => by rw [hk]) (fun i => by rw [hr]) (sa 4 (by omega) (by omega)).2.2.2.2.2 (fun i z _ => by rw [hr])⟩
  · rw [s0.2.2.1, h3]; exact (hm _ (by omega)).symm
  · rw [s0.2.2.1, h4]; exact (hm _ (by omega)).symm
  · rw [s0.2.2.1, h6]; exact (hm _ (by omega)).symm
  · rw [s0.2.2.1, h7]; exact (hm _ (by omega)).symm
  · rw [s0.2.2.1, h8]; exact (hm _ (by omega)).symm
  · rw [s0.2.2.1, h9]; exact (hm _ (by omega)).symm
  · obtain ⟨n, hn12, en⟩ := hw.rng hv
    have i1 : iv (μ (274 + 510 * v + 1)) = n := by rw [en]; exact nI_clamp (by omega)
    rw [hm _ (by omega)] at hi
    have hi9 := hi
    rw [i1] at hi9
    rw [(sa 1 (by omega) (by omega)).2.2.2.2.1, (sa 2 (by omega) (by omega)).2.2.2.2.1, (sa 3 (by omega) (by omega)).2.2.2.2.1, hm _ (by omega), hm _ (by omega), hm _ (by omega)]
    exact g1 i hi
  · exact (hO.scs hz9 (g2 z9 hz9) (sa _ (by omega) (by omega)) (sa _ (by omega) (by omega)) (sa _ (by omega) (by omega))).c1 ⟨by omega, by omega⟩ (hm _ (by omega)) (hm _ (by omega)) (fun k hk9 => hm _ (by omega)) (hw.b5 hv _ (by omega) (by omega))
  · by_cases c9 : c = b
    · subst c9
      rw [px_BB, if_pos ⟨rfl, rfl⟩]
      rcases ho with h | ⟨u1, y, u2, u3⟩
      · exact Or.inl h
      · exact Or.inr ⟨u1, y, u2, u3.km (fun b9 hb9 => hO.ac fo hb9)⟩
    · exact hO.acs hV0 fo hc9 (by rw [px_BB, if_neg (fun q => c9 q.2)]) (fun k hk9 => hm _ (by omega)) (hw.v30 hv c hc9)
theorem six_in {p : Int32} (h : six p) : ¬ zin p 0 9 = 0 := by
  obtain ⟨n, hn, e⟩ := h
  subst e
  rw [zin_0]
  refine ⟨?_, ?_⟩
  · rw [show (0 : Int32) = nI 0 from rfl, nI_leI (by decide) (by omega)]; omega
  · rw [show (9 : Int32) = nI 9 from rfl, nI_leI (by omega) (by decide)]; omega
theorem k_X9_removeAccessorial (l : Launch) (D : va_G) (T : Nat → ClassId) (x0 : Nat) (p0 : Int32) (S : HS) (e0 : (Nat → Prop)) (e1 : Nat → Int32) (e2 : Nat) (e3 : Nat → Nat) (hx0 : hK S x0 = 10) (h : ((WF e1 ∧ e2 < 6 ∧ RelV S e0 x0 e1 e2) ∧ OwV S x0 e3) ∧ six p0) : CMi l yX9_removeAccessorial (ws_X9_removeAccessorial) rm_X9_removeAccessorial D T [.ref x0, .int p0] S 0 0 (fun v S1 => (v = b2i (decide (e1 (274 + 510 * e2 + 150 + 36 * iv p0) = 1)) ∧ (decide (e1 (274 + 510 * e2 + 150 + 36 * iv p0) = 1) = true → RelV S1 e0 x0 (zf e1 (274 + 510 * e2 + 150 + 36 * iv p0) 36) e2) ∧ vmP S S1 x0 e3)) := c_X9_removeAccessorial l D T x0 p0 S hx0 _ <|
  (by
    obtain ⟨⟨⟨hw, hv, hV⟩, hO⟩, h6⟩ := h
    have hin := six_in h6
    obtain ⟨b, hb, e⟩ := h6
    subst e
    have ib : iv (nI b) = b := nI_clamp (by omega)
    obtain ⟨o0, o1, o2, o3, o4, o5, o6, o7, o8⟩ := hO
    have hO : OwV S x0 e3 := ⟨o0, o1, o2, o3, o4, o5, o6, o7, o8⟩
    obtain ⟨_, _, g3, _, _, _, _, _, n5⟩ := hV.in hO
    unfold wp_X9_removeAccessorial
    refine ⟨e0, e1, e2, ⟨hw, hv, hV⟩, fun o S5 _ _ h5 => ?_⟩
    obtain ⟨eS, c1, c2⟩ := h5
    subst eS
    rw [ib]
    rcases g3 b hb with ⟨m0, hn⟩ | ⟨m1, y, hy, hA9⟩
    · have e := c1 (fun q => q.2 (by rw [ib]; exact m0))
      refine ⟨fun _ => ?_, fun b9 hb9 => by rw [e] at hb9; cases hb9⟩
      rw [m0]
      exact ⟨rfl, fun q => absurd q (by decide), frM.rf, hO⟩
    · obtain ⟨y9, ey, _⟩ := c2 ⟨hin, by rw [ib, m1]; decide⟩
      refine ⟨fun e => (by rw [ey] at e; cases e), fun b9 hb9 _ => ⟨e3 5, o5, fun _ => ?_⟩⟩
      rw [n5, nz_vp (by omega) (by decide), nI_clamp (n := b) (by omega)]
      refine ⟨hb, fun S20 e20 => ?_⟩
      subst e20
      have key := hV.a1 (o := none) (μ' := zf e1 (274 + 510 * e2 + 150 + 36 * b) 36) hw hv hO hb (fun k hk => by unfold zf; rw [if_neg (by omega)]) (Or.inl ⟨by unfold zf; rw [if_pos (by omega)], rfl⟩)
      rw [m1]
      exact ⟨rfl, fun _ => key.1, key.2⟩)
abbrev ws_X9_putAccessorial : List Cond := Cond.code yX9_putAccessorial cX9_putAccessorial 3 (some .boolean) :: W0
abbrev rm_X9_putAccessorial : Room := ({ frames := 1, cells := 0, slots := 0, locals := 22 } : Room)
def wp_X9_putAccessorial (P : Int32 → HS → Prop) (x0 : Nat) (p0 : Int32) (p1 : (Option Nat)) (S : HS) : Prop := ((zin p0 0 9) = 0 → (P 0 S)) ∧ (¬ (zin p0 0 9) = 0 → ((p1 = none → (P 0 S)) ∧ (∀ b6 : Nat, p1 = some b6 → hK S b6 = 1 → ((bn (hI S 20 b6) 9999) ∧ ((¬ (b2i (seB (hI S 20 b6) (hI S 21 b6))) = 0 → (∃ b15 : Nat, hR S 210 x0 = some b15 ∧ (hK S b15 = 25 → (vp_in p0 (hN S b15) ∧ (∀ S19 : HS, S19 = putB S b15 (Int32.toNatClampNeg p0) (some b6) → (P 1 S19)))))) ∧ ((b2i (seB (hI S 20 b6) (hI S 21 b6))) = 0 → (P 0 S)))))))
set_option maxRecDepth 100000 in
set_option maxHeartbeats 4000000 in
theorem t_X9_putAccessorial {p : Program} {l : Launch} {e : Env} {s : State} {m : MethodId} {args : Array Value} {below : List Frame} {meth : Method} {c : Code} {D : va_G} {A : Nat → Prop} {T : Nat → ClassId} (C : GC p s m args meth c cX9_putAccessorial "FreightRater$Version" (ws_X9_putAccessorial) 3 D A (zty T)) (E : GE T A s) (hr : meth.sig.returnType = (some .boolean)) (P : Int32 → HS → Prop) : ∀ (x0 : Nat) (p0 : Int32) (p1 : (Option Nat)) (S0 S : HS) (L : List Nat), S0 = S → wt S → hL S L → (hK S x0 = 10) → (∀ b, p1 = some b → hK S b = 1) → wp_X9_putAccessorial P x0 p0 p1 S → GW p l e { rm_X9_putAccessorial with cells := 0, slots := 0 } s m args below meth c D A 3 0 0 (MQ below (va_Qi (fun v (u : HS × List Nat) => P v u.1 ∧ CO S0 u) (CE D T A) A) args s 0 0 A) (CW T S L) 0 0 0 [(0, .ref x0), (1, .int p0), (2, va_rf p1)] [] := by
  have hW : ∀ {w : Cond}, w ∈ W0 → w.before args s = true := fun h => C.2.2.2.2.1 _ (List.mem_cons_of_mem _ h)
  intro x0 p0 p1 S0 S L hS0 hw hL hx0 hp1 h
  have he : ext S0 S := by rw [hS0]; exact ext_rf
  unfold wp_X9_putAccessorial at h
  refine g_iload_n C dX9_putAccessorial_0 rfl 1 rfl ?_
  refine g_iconst (v := 0) C dX9_putAccessorial_1 (by decide) ?_
  refine g_bipush (v := 9) C dX9_putAccessorial_2 (by decide) ?_
  refine gc_calliSN (host := "FreightRater") C E hw hL [.int p0, .int 0, .int 9] rfl (k_X10_isBetween l D T p0 0 9 S ) (w0_SN 3 E C.2.2.2.2.1 (by decide) kw_304 kw_1 kw_305 rfl rfl (by decide +kernel) ⟨Nat.le_of_ble_eq_true rfl, Nat.le_of_ble_eq_true rfl⟩) rfl (Nat.le_of_ble_eq_true rfl) (Nat.le_refl _) (Nat.le_refl _) (Nat.zero_le _) (Nat.zero_le _) dX9_putAccessorial_4 (fun v9 S9 L1 he9 hw9 hL9 hp => ?_)
  obtain ⟨hv9, hs9⟩ := hp
  replace hs9 := hs9.symm
  subst hs9
  replace hv9 := hv9.symm
  subst hv9
  have w4 := hL9
  refine g_if_eq (tgt := 21) C dX9_putAccessorial_7 (by decide) (fun z5 => ?_) (fun z5 => ?_)
  · replace h := h.1 z5
    refine g_iconst (v := 0) C dX9_putAccessorial_21 (by decide) ?_
    exact gc_zret C vz0 hw w4 he hr dX9_putAccessorial_22 h
  · replace h := h.2 z5
    refine g_qload_n C dX9_putAccessorial_10 rfl 2 rfl ?_
    rcases p1 with _ | b6
    · replace h := h.1 rfl
      refine g_ifnullN (tgt := 21) C dX9_putAccessorial_11 (by decide) ?_
      refine g_iconst (v := 0) C dX9_putAccessorial_21 (by decide) ?_
      exact gc_zret C vz0 hw w4 he hr dX9_putAccessorial_22 h
    · have g7 : hK S b6 = 1 := hp1 b6 rfl
      replace h := h.2 b6 rfl g7
      refine g_ifnull C dX9_putAccessorial_11 ?_
      refine g_aload_n C dX9_putAccessorial_14 rfl 2 rfl ?_
      obtain ⟨g8, h⟩ := h
      refine gc_calliV (host := "") C E hw w4 g7 (by decide) (by decide) rfl [] rfl (k_X0_isPossible l D T b6 S g7 g8) (w0_V 0 C.2.2.2.2.1 kw_931 kw_932 kw_933 kw_27 kw_934 rfl rfl (by decide +kernel) ⟨Nat.le_of_ble_eq_true rfl, Nat.le_of_ble_eq_true rfl⟩) rfl (Nat.le_of_ble_eq_true rfl) (Nat.le_refl _) (Nat.le_refl _) (Nat.zero_le _) (Nat.zero_le _) dX9_putAccessorial_15 (fun v9 S9 L9 he9 hw9 hL9 hp => ?_)
      obtain ⟨hv9, hs9⟩ := hp
      replace hs9 := hs9.symm
      subst hs9
      replace hv9 := hv9.symm
      subst hv9
      have w12 := hL9
      refine g_if_ne (tgt := 23) C dX9_putAccessorial_18 (by decide) (fun z13 => ?_) (fun z13 => ?_)
      · replace h := h.1 z13
        refine g_aload_n C dX9_putAccessorial_23 rfl 0 rfl ?_
        refine gc_getR C hw iwx_X9 w12 hx0 (by decide) (by decide) rfl 10 (by decide) (hW kw_435) rfl rfl rfl dX9_putAccessorial_24 (fun o14 eo14 ko14 => ?_)
        obtain ⟨b15, hb9, h⟩ := h
        have g16 : hK S b15 = 25 := ko14 b15 (eo14.trans hb9)
        replace h := h g16
        refine g_opt (eo14.trans hb9) ?_
        refine g_iload_n C dX9_putAccessorial_27 rfl 1 rfl ?_
        refine g_aload_n C dX9_putAccessorial_28 rfl 2 rfl ?_
        obtain ⟨g17, h⟩ := h
        refine gc_aast C w12 g16 (by decide) rfl g7 (by decide) (by decide) rfl g17 dX9_putAccessorial_29 ?_
        have w18 := wt_putB hw (Int32.toNatClampNeg p0) (some b6) (k_ne g16 (by decide)) (fun b hb => by cases hb; rw [show hK S b15 = 25 from g16]; exact g7)
        refine gc_nS (fun S19 eS19 => ?_)
        replace h := h S19 eS19
        have w20 : wt S19 := by rw [eS19]; exact w18
        have w21 : isL S19 L9 := by rw [eS19]; exact w12
        have w22 : ext S0 S19 := by rw [eS19]; exact he
        have g23 : hK S19 x0 = 10 := by rw [eS19]; exact hx0
        have g24 : hK S19 b6 = 1 := by rw [eS19]; exact g7
        refine g_iconst (v := 1) C dX9_putAccessorial_30 (by decide) ?_
        exact gc_zret C vz1 w20 w21 w22 hr dX9_putAccessorial_31 h
      · replace h := h.2 z13
        refine g_iconst (v := 0) C dX9_putAccessorial_21 (by decide) ?_
        exact gc_zret C vz0 hw w12 he hr dX9_putAccessorial_22 h
theorem c_X9_putAccessorial (l : Launch) (D : va_G) (T : Nat → ClassId) (x0 : Nat) (p0 : Int32) (p1 : (Option Nat)) (S : HS) (hx0 : hK S x0 = 10) (hp1 : ∀ b, p1 = some b → hK S b = 1) (P : Int32 → HS → Prop) (h : wp_X9_putAccessorial P x0 p0 p1 S) : CMi l yX9_putAccessorial (ws_X9_putAccessorial) rm_X9_putAccessorial D T [.ref x0, .int p0, va_rf p1] S 0 0 P := gc_meti (by decide) rfl rfl (by cases p1 <;> exact Nat.le_of_ble_eq_true rfl) (fun p e s m args below meth c A L C E hnm hr hw hL => t_X9_putAccessorial C E   hr P x0 p0 p1 S S L rfl hw hL hx0 hp1 h)
theorem k_X9_putAccessorial (l : Launch) (D : va_G) (T : Nat → ClassId) (x0 : Nat) (p0 : Int32) (p1 : (Option Nat)) (S : HS) (e0 : (Nat → Prop)) (e1 : Nat → Int32) (e2 : Nat) (e3 : Nat → Nat) (e4 : Int32) (e5 : Int32) (e6 : Int32) (e7 : Int32) (e8 : Nat → Int32) (e9 : Int32) (hx0 : hK S x0 = 10) (hp1 : ∀ b, p1 = some b → hK S b = 1) (h : ((WF e1 ∧ e2 < 6 ∧ RelV S e0 x0 e1 e2) ∧ OwV S x0 e3) ∧ six p0 ∧ ∃ y, p1 = some y ∧ RelA S e0 y (seF (fun _ => 0) 0 0 e4 e5 e6 e7 e8 e9) 0 0 ∧ bn e4 9999 ∧ bn e7 30) : CMi l yX9_putAccessorial (ws_X9_putAccessorial) rm_X9_putAccessorial D T [.ref x0, .int p0, va_rf p1] S 0 0 (fun v S1 => (v = b2i (seB e4 e5) ∧ (seB e4 e5 = true → RelV S1 e0 x0 (seF e1 e2 (iv p0) e4 e5 e6 e7 e8 e9) e2) ∧ vmP S S1 x0 e3)) := c_X9_putAccessorial l D T x0 p0 p1 S hx0 hp1 _ <|
  (by
    obtain ⟨⟨⟨hw, hv, hV⟩, hO⟩, h6, y, ey, hA9, h99, h30⟩ := h
    have hin := six_in h6
    obtain ⟨b, hb, e⟩ := h6
    subst e
    have ib : iv (nI b) = b := nI_clamp (by omega)
    obtain ⟨o0, o1, o2, o3, o4, o5, o6, o7, o8⟩ := hO
    have hO : OwV S x0 e3 := ⟨o0, o1, o2, o3, o4, o5, o6, o7, o8⟩
    obtain ⟨_, _, g3, _, _, _, _, _, n5⟩ := hV.in hO
    obtain ⟨s1, s2, s4⟩ := sef_1 (x2 := e4) (x3 := e5) (rows := e6) (tested := e7) (excl := e9) (tv := e8)
    have n1 : hI S 20 y = e4 := hA9.2.2.1.trans s1
    have n2 : hI S 21 y = e5 := hA9.2.2.2.1.trans s2
    subst ey
    unfold wp_X9_putAccessorial
    refine ⟨fun c => absurd c hin, fun _ => ⟨fun e => (by cases e), fun b6 hb6 _ => ?_⟩⟩
    have eb := Option.some.inj hb6
    subst eb
    rw [n1, n2, ib]
    refine ⟨h99, fun c => ⟨e3 5, o5, fun _ => ?_⟩, fun c => ?_⟩
    · rw [n5, nz_vp (by omega) (by decide), nI_clamp (n := b) (by omega)]
      refine ⟨hb, fun S19 e19 => ?_⟩
      subst e19
      have hA2 : RelA S e0 y (seF e1 e2 b e4 e5 e6 e7 e8 e9) e2 b := hA9.cg (fun k hk => sef_c hk) (by
        obtain ⟨n, hn, en⟩ := h30
        rw [s4, en, show iv (nI n) = n from nI_clamp (by omega)]
        exact hn)
      have key := hV.a1 (o := some y) (μ' := seF e1 e2 b e4 e5 e6 e7 e8 e9) hw hv hO hb (fun k hk => sef_o hk) (Or.inr ⟨by
        have := sef_v (μ := e1) (v := e2) (a := b) (x2 := e4) (x3 := e5) (rows := e6) (tested := e7) (excl := e9) (tv := e8) 0
        rw [Nat.add_zero] at this
        rw [this]
        rfl, y, rfl, hA2⟩)
      rw [b2i_nz c]
      exact ⟨rfl, fun _ => key.1, key.2⟩
    · rw [b2i_z c]
      exact ⟨rfl, fun q => absurd q (by decide), frM.rf, hO⟩)

end S_C5G
