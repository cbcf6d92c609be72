section S_DRAFT


theorem kd_X10_isBetween (l : Launch) (D : va_G) (T : Nat → ClassId) (p0 : Int32) (p1 : Int32) (p2 : Int32) (S : HS)  : CMi l yX10_isBetween (ws_X10_isBetween) rm_X10_isBetween D T [.int p0, .int p1, .int p2] S 0 0 (fun v S1 => v = (zin p0 p1 p2) ∧ S1 = S) := c_X10_isBetween l D T p0 p1 p2 S  _ <|
  (by
    unfold wp_X10_isBetween zin
    refine ⟨fun c => ⟨by rw [if_pos c], rfl⟩, fun c => ⟨fun c2 => ⟨by rw [if_neg c, if_pos c2], rfl⟩, fun c2 => ⟨by rw [if_neg c, if_neg c2], rfl⟩⟩⟩)
theorem kd_X10_isIn (l : Launch) (D : va_G) (T : Nat → ClassId) (p0 : Int32) (p1 : Int32) (S : HS)  : CMi l yX10_isIn (ws_X10_isIn) rm_X10_isIn D T [.int p0, .int p1] S 0 0 (fun v S1 => v = (hasF p0 p1) ∧ S1 = S) := c_X10_isIn l D T p0 p1 S  _ <|
  (by
    unfold wp_X10_isIn hasF
    refine ⟨fun c => ⟨by rw [if_neg c], rfl⟩, fun c => ⟨by rw [if_pos c], rfl⟩⟩)
theorem kd_X10_percentOf (l : Launch) (D : va_G) (T : Nat → ClassId) (p0 : Int32) (p1 : Int32) (S : HS)  : CMi l yX10_percentOf (ws_X10_percentOf) rm_X10_percentOf D T [.int p0, .int p1] S 0 0 (fun v S1 => v = (pctF p0 p1) ∧ S1 = S) := c_X10_percentOf l D T p0 p1 S  _ <|
  (by
    unfold wp_X10_percentOf
    exact ⟨rfl, rfl⟩)
theorem kd_X10_isSide (l : Launch) (D : va_G) (T : Nat → ClassId) (p0 : Int32) (S : HS)  : CMi l yX10_isSide (ws_X10_isSide) rm_X10_isSide D T [.int p0] S 0 0 (fun v S1 => v = (zin p0 1 200) ∧ S1 = S) := c_X10_isSide l D T p0 S  _ <|
  (by
    unfold wp_X10_isSide
    exact ⟨zin_vz _ _ _, rfl, rfl⟩)
theorem kd_X10_isRoute (l : Launch) (D : va_G) (T : Nat → ClassId) (p0 : Int32) (p1 : Int32) (S : HS)  : CMi l yX10_isRoute (ws_X10_isRoute) rm_X10_isRoute D T [.int p0, .int p1] S 0 0 (fun v S1 => v = (andF (zin p0 0 999) (zin p1 0 999)) ∧ S1 = S) := c_X10_isRoute l D T p0 p1 S  _ <|
  (by
    unfold wp_X10_isRoute andF
    refine ⟨fun c => ⟨by rw [if_pos c], rfl⟩, fun c => ⟨fun c2 => ⟨by rw [if_neg c, if_pos c2], rfl⟩, fun c2 => ⟨by rw [if_neg c, if_neg c2], rfl⟩⟩⟩)
theorem kd_X4_amountBy (l : Launch) (D : va_G) (T : Nat → ClassId) (x0 : Nat) (p0 : Int32) (p1 : Int32) (S : HS) (e0 : (Nat → Prop)) (e1 : Nat → Int32) (e2 : Nat) (e3 : Nat) (hx0 : hK S x0 = 5) (h : WF e1 ∧ e2 < 6 ∧ 1 ≤ e3 ∧ e3 ≤ 9 ∧ RelSc S e0 x0 e1 e2 e3 ∧ ∃ i : Nat, i < iv (e1 (274 + 510 * e2 + 38 + e3 - 1)) ∧ p0 = nI i) : CMi l yX4_amountBy (ws_X4_amountBy) rm_X4_amountBy D T [.ref x0, .int p0, .int p1] S 0 0 (fun v S1 => v = (amtF e1 e2 e3 (iv p0) p1) ∧ S1 = S) := c_X4_amountBy l D T x0 p0 p1 S hx0 _ <|
  (by
    obtain ⟨hw, hv, h1, h9, hR, i, hi, rfl⟩ := h
    obtain ⟨_, _, r1, r2, w, p, rw_, rp, ⟨kw, nw, _⟩, ⟨kp, np, _⟩, hc⟩ := hR
    obtain ⟨c, hc5, ec⟩ := hw.brk hv h1 h9
    have ic : iv (e1 (274 + 510 * e2 + 38 + e3 - 1)) = c := by rw [ec]; exact nI_clamp (by omega)
    rw [ic] at hi hc
    obtain ⟨g1, g2⟩ := hc i hi
    unfold wp_X4_amountBy
    refine ⟨w, rw_, fun _ => ?_⟩
    rw [nw, nz_vp (by omega) (by decide)]
    refine ⟨by omega, p, rp, fun _ => ?_⟩
    rw [np, nz_vp (by omega) (by decide), nI_clamp (n := i) (by omega), g1, g2]
    refine ⟨by omega, ?_, rfl⟩
    unfold amtF
    rw [show iv (nI i) = i from nI_clamp (by omega)])
theorem rl_fc {P : Int32 → HS → Prop} {S : HS} {M : Nat → Prop} {x v z c : Nat} {μ : Nat → Int32} {w : Int32} (hw : WF μ) (hv : v < 6) (h1 : 1 ≤ z) (h9 : z ≤ 9) (hR : RelSc S M x μ v z) (hc : c ≤ 5) (ec : μ (274 + 510 * v + 38 + z - 1) = nI c) : ∀ (k i b fuel : Nat), i + k = c → k < fuel → b < c → P (nI (chpFold μ v z w k i b)) S → wp_X4_findCheapest_4 P fuel x w (nI b) (nI i) S := by
  have ic : iv (μ (274 + 510 * v + 38 + z - 1)) = c := by rw [ec]; exact nI_clamp (by omega)
  have r1 : hI S 100 x = nI c := hR.2.2.1.trans ec
  intro k
  induction k with
  | zero =>
    intro i b fuel hi hf hb hP
    obtain ⟨f, rfl⟩ : ∃ f, fuel = f + 1 := ⟨fuel - 1, by omega⟩; rw [wp_X4_findCheapest_4]; unfold wb_X4_findCheapest_4; dsimp only
    rw [r1, nI_leI (by omega) (by omega)]
    exact ⟨fun _ => hP, fun z9 => absurd (by omega) z9⟩
  | succ k ih =>
    intro i b fuel hi hf hb hP
    obtain ⟨f, rfl⟩ : ∃ f, fuel = f + 1 := ⟨fuel - 1, by omega⟩; rw [wp_X4_findCheapest_4]; unfold wb_X4_findCheapest_4; dsimp only
    rw [r1, nI_leI (by omega) (by omega), nz_lt0 (by omega), nI_1, show iv (nI i) = i from nI_clamp (by omega), show iv (nI b) = b from nI_clamp (by omega)]
    rw [chpFold] at hP
    refine ⟨fun z9 => absurd z9 (by omega), fun _ => ⟨fun z9 => absurd z9 (by decide), fun _ => ⟨M, μ, v, z, ⟨hw, hv, h1, h9, hR, i, by omega, rfl⟩, M, μ, v, z, ⟨hw, hv, h1, h9, hR, b, by omega, rfl⟩, fun c9 v23 e23 => ?_, fun c9 v23 e23 => ?_⟩⟩⟩
    · subst e23
      rw [if_neg (Int32.not_lt.mpr c9)] at hP
      exact ih (i + 1) b f (by omega) (by omega) hb hP
    · subst e23
      rw [if_pos (Int32.not_le.mp c9)] at hP
      exact ih (i + 1) i f (by omega) (by omega) (by omega) hP
theorem kd_X4_findCheapest (l : Launch) (D : va_G) (T : Nat → ClassId) (x0 : Nat) (p0 : Int32) (S : HS) (e0 : (Nat → Prop)) (e1 : Nat → Int32) (e2 : Nat) (e3 : Nat) (hx0 : hK S x0 = 5) (h : WF e1 ∧ e2 < 6 ∧ 1 ≤ e3 ∧ e3 ≤ 9 ∧ RelSc S e0 x0 e1 e2 e3) : CMi l yX4_findCheapest (ws_X4_findCheapest) rm_X4_findCheapest D T [.ref x0, .int p0] S 0 0 (fun v S1 => v = ((if e1 (274 + 510 * e2 + 38 + e3 - 1) = 0 then -1 else nI (chpF e1 e2 e3 p0))) ∧ S1 = S) := c_X4_findCheapest l D T x0 p0 S hx0 _ <|
  (by
    obtain ⟨hw, hv, h1, h9, hR⟩ := h
    obtain ⟨c, hc, ec⟩ := hw.brk hv h1 h9
    have ic : iv (e1 (274 + 510 * e2 + 38 + e3 - 1)) = c := by rw [ec]; exact nI_clamp (by omega)
    have r1 : hI S 100 x0 = nI c := hR.2.2.1.trans ec
    unfold wp_X4_findCheapest
    refine ⟨20, ?_⟩
    rw [wp_X4_findCheapest_4]; unfold wb_X4_findCheapest_4; dsimp only
    rw [r1, nz_le0 (by omega)]
    refine ⟨fun c9 => ⟨?_, rfl⟩, fun c9 => ⟨fun _ v3 e3' => ?_, fun z9 => absurd (by decide) z9⟩⟩
    · rw [ec, show c = 0 by omega, if_pos (show nI 0 = 0 from rfl)]
    · subst e3'
      refine rl_fc hw hv h1 h9 hR hc ec (c - 1) 1 0 19 (by omega) (by omega) (by omega) ⟨?_, rfl⟩
      rw [if_neg (fun z9 => by rw [ec, nz_eq0 (by omega)] at z9; omega)]
      unfold chpF
      rw [ic])
theorem kd_X4_chargeFor (l : Launch) (D : va_G) (T : Nat → ClassId) (x0 : Nat) (p0 : Int32) (p1 : Int32) (S : HS) (e0 : (Nat → Prop)) (e1 : Nat → Int32) (e2 : Nat) (e3 : Nat) (hx0 : hK S x0 = 5) (h : WF e1 ∧ e2 < 6 ∧ 1 ≤ e3 ∧ e3 ≤ 9 ∧ RelSc S e0 x0 e1 e2 e3 ∧ p0 = nI (chpF e1 e2 e3 p1) ∧ ¬ e1 (274 + 510 * e2 + 38 + e3 - 1) = 0) : CMi l yX4_chargeFor (ws_X4_chargeFor) rm_X4_chargeFor D T [.ref x0, .int p0, .int p1] S 0 0 (fun v S1 => v = (baseF e1 e2 e3 p1) ∧ S1 = S) := c_X4_chargeFor l D T x0 p0 p1 S hx0 _ <|
  (by
    obtain ⟨hw, hv, h1, h9, hR, ep, hne⟩ := h
    obtain ⟨c, hc, ec⟩ := hw.brk hv h1 h9
    have ic : iv (e1 (274 + 510 * e2 + 38 + e3 - 1)) = c := by rw [ec]; exact nI_clamp (by omega)
    have hc0 : 0 < c := by
      rcases Nat.eq_zero_or_pos c with z9 | z9
      · subst z9; exact absurd ec hne
      · exact z9
    have hlt : chpF e1 e2 e3 p1 < c := by
      have gen : ∀ k i b, i + k = c → b < c → chpFold e1 e2 e3 p1 k i b < c := by
        intro k
        induction k with
        | zero => intro i b _ hb; exact hb
        | succ k ih =>
          intro i b hi hb
          rw [chpFold]
          refine ih (i + 1) _ (by omega) ?_
          split
          · omega
          · exact hb
      unfold chpF
      rw [ic]
      exact gen (c - 1) 1 0 (by omega) hc0
    have r2 : hI S 103 x0 = e1 (274 + 510 * e2 + 137 + e3 - 1) := hR.2.2.2.1
    unfold wp_X4_chargeFor
    refine ⟨e0, e1, e2, e3, ⟨hw, hv, h1, h9, hR, chpF e1 e2 e3 p1, by rw [ic]; exact hlt, ep⟩, ?_, rfl⟩
    unfold baseF
    rw [r2, ep, show iv (nI (chpF e1 e2 e3 p1)) = chpF e1 e2 e3 p1 from nI_clamp (by omega)])

theorem kd_X5_isPosted (l : Launch) (D : va_G) (T : Nat → ClassId) (x0 : Nat) (S : HS) (e0 : (Nat → Prop)) (e1 : Nat → Int32) (e2 : Nat) (hx0 : hK S x0 = 6) (h : WF e1 ∧ e2 < 10 ∧ RelS S e0 x0 e1 e2) : CMi l yX5_isPosted (ws_X5_isPosted) rm_X5_isPosted D T [.ref x0] S 0 0 (fun v S1 => v = (psF e1 e2) ∧ S1 = S) := c_X5_isPosted l D T x0 S hx0 _ <|
  (by
    obtain ⟨hw, hs, hR⟩ := h
    have e8 : hI S 128 x0 = e1 (14 + 26 * e2 + 5) := hR.2.2.2.2.2.2.2.2.2.1
    unfold wp_X5_isPosted psF
    rw [e8]
    rcases (hw.s hs).2.2.2.1 with z9 | z9
    · rw [z9]
      exact ⟨fun _ => ⟨by rw [if_neg (by decide)], rfl⟩, fun w9 => absurd rfl w9⟩
    · refine ⟨fun w9 => ?_, fun _ => ⟨by rw [if_pos z9], rfl⟩⟩
      rw [w9] at z9; exact absurd z9 (by decide))
theorem rl_vol {P : Int32 → HS → Prop} {S : HS} {M : Nat → Prop} {x s c : Nat} {μ : Nat → Int32} (hR : RelS S M x μ s) (hc : c ≤ 5) (ec : μ (14 + 26 * s + 4) = nI c) (hd : ∀ p : Nat, p < 5 → (volF μ s p + 1 - 1) / 1 = volF μ s p) : ∀ (k p fuel : Nat) (n : Int32), p + k = c → k < fuel → P (dimFold μ s 1 k p n) S → wp_X5_volume_4 P fuel x n (nI p) S := by
  obtain ⟨_, _, _, _, _, _, r4, _, _, _, b, rb, ⟨kb, nb, _⟩, hb⟩ := hR
  rw [ec] at r4 hb
  rw [show iv (nI c) = c from nI_clamp (by omega)] at hb
  intro k
  induction k with
  | zero =>
    intro p fuel n hp hf hP
    obtain ⟨f, rfl⟩ : ∃ f, fuel = f + 1 := ⟨fuel - 1, by omega⟩; rw [wp_X5_volume_4]; unfold wb_X5_volume_4; dsimp only
    rw [r4, nI_leI (by omega) (by omega)]
    exact ⟨fun _ => hP, fun z9 => absurd (by omega) z9⟩
  | succ k ih =>
    intro p fuel n hp hf hP
    rw [dimFold, hd p (by omega)] at hP
    obtain ⟨f, rfl⟩ : ∃ f, fuel = f + 1 := ⟨fuel - 1, by omega⟩; rw [wp_X5_volume_4]; unfold wb_X5_volume_4; dsimp only
    rw [r4, nI_leI (by omega) (by omega), nI_1]
    refine ⟨fun z9 => absurd z9 (by omega), fun _ => ⟨b, rb, fun _ => ?_⟩⟩
    rw [nb, nz_vp (by omega) (by decide), nI_clamp (n := p) (by omega), hb p (by omega)]
    refine ⟨by omega, fun v6 e6 v7 e7 => ?_⟩
    subst e6 e7
    exact ih (p + 1) f _ (by omega) (by omega) hP
theorem rl_dim {P : Int32 → HS → Prop} {S : HS} {M : Nat → Prop} {x s c : Nat} {μ : Nat → Int32} {d : Int32} (hd : ¬ d = 0) (hR : RelS S M x μ s) (hc : c ≤ 5) (ec : μ (14 + 26 * s + 4) = nI c) : ∀ (k p fuel : Nat) (n : Int32), p + k = c → k < fuel → P (dimFold μ s d k p n) S → wp_X5_dimensionalWeight_11 P fuel x d n (nI p) S := by
  obtain ⟨_, _, _, _, _, _, r4, _, _, _, b, rb, ⟨kb, nb, _⟩, hb⟩ := hR
  rw [ec] at r4 hb
  rw [show iv (nI c) = c from nI_clamp (by omega)] at hb
  intro k
  induction k with
  | zero =>
    intro p fuel n hp hf hP
    obtain ⟨f, rfl⟩ : ∃ f, fuel = f + 1 := ⟨fuel - 1, by omega⟩; rw [wp_X5_dimensionalWeight_11]; unfold wb_X5_dimensionalWeight_11; dsimp only
    rw [r4, nI_leI (by omega) (by omega)]
    exact ⟨fun _ => hP, fun z9 => absurd (by omega) z9⟩
  | succ k ih =>
    intro p fuel n hp hf hP
    rw [dimFold] at hP
    obtain ⟨f, rfl⟩ : ∃ f, fuel = f + 1 := ⟨fuel - 1, by omega⟩; rw [wp_X5_dimensionalWeight_11]; unfold wb_X5_dimensionalWeight_11; dsimp only
    rw [r4, nI_leI (by omega) (by omega), nI_1]
    refine ⟨fun z9 => absurd z9 (by omega), fun _ => ⟨b, rb, fun _ => ?_⟩⟩
    rw [nb, nz_vp (by omega) (by decide), nI_clamp (n := p) (by omega), hb p (by omega)]
    refine ⟨by omega, hd, fun v6 e6 v7 e7 => ?_⟩
    subst e6 e7
    exact ih (p + 1) f _ (by omega) (by omega) hP
theorem kd_X5_volume (l : Launch) (D : va_G) (T : Nat → ClassId) (x0 : Nat) (S : HS) (e0 : (Nat → Prop)) (e1 : Nat → Int32) (e2 : Nat) (hx0 : hK S x0 = 6) (h : WF e1 ∧ e2 < 10 ∧ RelS S e0 x0 e1 e2) : CMi l yX5_volume (ws_X5_volume) rm_X5_volume D T [.ref x0] S 0 0 (fun v S1 => v = (dimF e1 e2 1) ∧ S1 = S) := c_X5_volume l D T x0 S hx0 _ <|
  (by
    obtain ⟨hw, hs, hR⟩ := h
    obtain ⟨c, hc, ec⟩ := hw.pcs hs
    unfold wp_X5_volume
    refine ⟨20, rl_vol hR hc ec (fun p hp => ?_) c 0 20 0 (by omega) (by omega) ⟨?_, rfl⟩⟩
    · obtain ⟨m, hm, em⟩ := volF_bn hw hs hp
      rw [em, nI_1, nI_p1 (by omega), show (1 : Int32) = nI 1 from rfl, pk_div (by omega) (by decide) (by decide), Nat.div_one, Nat.add_sub_cancel]
    · unfold dimF
      rw [ec, show iv (nI c) = c from nI_clamp (by omega)])
theorem kd_X5_dimensionalWeight (l : Launch) (D : va_G) (T : Nat → ClassId) (x0 : Nat) (p0 : Int32) (S : HS) (e0 : (Nat → Prop)) (e1 : Nat → Int32) (e2 : Nat) (hx0 : hK S x0 = 6) (h : WF e1 ∧ e2 < 10 ∧ RelS S e0 x0 e1 e2 ∧ ∃ d : Nat, 1 ≤ d ∧ d ≤ 9999 ∧ p0 = nI d) : CMi l yX5_dimensionalWeight (ws_X5_dimensionalWeight) rm_X5_dimensionalWeight D T [.ref x0, .int p0] S 0 0 (fun v S1 => v = (dimF e1 e2 p0) ∧ S1 = S) := c_X5_dimensionalWeight l D T x0 p0 S hx0 _ <|
  (by
    obtain ⟨hw, hs, hR, d, hd1, hd2, rfl⟩ := h
    obtain ⟨c, hc, ec⟩ := hw.pcs hs
    unfold wp_X5_dimensionalWeight
    rw [nz_ge1 (by omega)]
    refine ⟨fun _ => ⟨20, rl_dim (fun z9 => by rw [nz_eq0 (by omega)] at z9; omega) hR hc ec c 0 20 0 (by omega) (by omega) ⟨?_, rfl⟩⟩, fun z9 => absurd (by omega) z9⟩
    unfold dimF
    rw [ec, show iv (nI c) = c from nI_clamp (by omega)])
/-- the reference looks for the zone from below, the class from above -/
theorem z_up {μ : Nat → Int32} {v : Nat} {p : Int32} : ∀ (k i : Nat) (z : Int32), zFold μ v p (k + 1) i z = (if zin p (μ (274 + 510 * v + 2 + 3 * (i + k))) (μ (274 + 510 * v + 2 + 3 * (i + k) + 1)) = 0 then zFold μ v p k i z else μ (274 + 510 * v + 2 + 3 * (i + k) + 2)) := by
  intro k
  induction k with
  | zero => intro i z; rw [zFold]; rfl
  | succ k ih =>
    intro i z
    rw [zFold, ih (i + 1), zFold, show i + 1 + k = i + (k + 1) by omega]
theorem rl_fz {P : Int32 → HS → Prop} {S : HS} {M : Nat → Prop} {x v c : Nat} {μ : Nat → Int32} {p : Int32} (hR : RelV S M x μ v) (hc : c ≤ 12) (ec : μ (274 + 510 * v + 1) = nI c) : ∀ (k fuel : Nat), k ≤ c → k < fuel → P (zFold μ v p k 0 0) S → wp_X9_findZone_7 P fuel x p (nI k - 1) S := by
  obtain ⟨_, ⟨fa, t, z, rf_, rt, rz, ⟨kf, nf, _⟩, ⟨kt, nt, _⟩, ⟨kz, nz, _⟩, hh⟩, _, _⟩ := hR
  rw [ec, show iv (nI c) = c from nI_clamp (by omega)] at hh
  intro k
  induction k with
  | zero =>
    intro fuel hk hf hP
    obtain ⟨f, rfl⟩ : ∃ f, fuel = f + 1 := ⟨fuel - 1, by omega⟩; rw [wp_X9_findZone_7]; unfold wb_X9_findZone_7; dsimp only
    exact ⟨fun _ => hP, fun z9 => absurd (by decide) z9⟩
  | succ k ih =>
    intro fuel hk hf hP
    rw [z_up, Nat.zero_add] at hP
    obtain ⟨g1, g2, g3⟩ := hh k (by omega)
    obtain ⟨f, rfl⟩ : ∃ f, fuel = f + 1 := ⟨fuel - 1, by omega⟩; rw [wp_X9_findZone_7]; unfold wb_X9_findZone_7; dsimp only
    rw [show nI (k + 1) - 1 = nI k from by rw [nI_p1 (by omega)]; rfl, nz_lt0 (by omega), nI_clamp (n := k) (by omega)]
    refine ⟨fun z9 => absurd z9 (by decide), fun _ => ⟨fa, rf_, fun _ => ?_⟩⟩
    rw [nf, nz_vp (by omega) (by decide)]
    refine ⟨by omega, t, rt, fun _ => ?_⟩
    rw [nt, nz_vp (by omega) (by decide), g1, g2]
    refine ⟨by omega, fun c9 v16 e16 => ?_, fun c9 => ⟨z, rz, fun _ => ?_⟩⟩
    · rw [if_pos c9] at hP
      rw [e16, ← Int32.sub_eq_add_neg]
      exact ih f (by omega) (by omega) hP
    · rw [if_neg c9] at hP
      rw [nz, nz_vp (by omega) (by decide), g3]
      exact ⟨by omega, hP⟩
theorem kd_X9_findZone (l : Launch) (D : va_G) (T : Nat → ClassId) (x0 : Nat) (p0 : Int32) (S : HS) (e0 : (Nat → Prop)) (e1 : Nat → Int32) (e2 : Nat) (hx0 : hK S x0 = 10) (h : WF e1 ∧ e2 < 6 ∧ RelV S e0 x0 e1 e2) : CMi l yX9_findZone (ws_X9_findZone) rm_X9_findZone D T [.ref x0, .int p0] S 0 0 (fun v S1 => v = (zIn e1 e2 p0) ∧ S1 = S) := c_X9_findZone l D T x0 p0 S hx0 _ <|
  (by
    obtain ⟨hw, hv, hR⟩ := h
    obtain ⟨c, hc, ec⟩ := hw.rng hv
    unfold wp_X9_findZone
    intro v1 e1'
    rw [hR.1.2.2.2.1, ec] at e1'
    subst e1'
    refine ⟨20, rl_fz hR hc ec c 20 (Nat.le_refl _) (by omega) ⟨?_, rfl⟩⟩
    unfold zIn
    rw [ec, show iv (nI c) = c from nI_clamp (by omega)])
theorem rl_cb {P : Int32 → HS → Prop} {S : HS} {M : Nat → Prop} {x v : Nat} {μ : Nat → Int32} (hR : RelV S M x μ v) : ∀ (k z fuel : Nat) (n : Int32), z + k = 9 → k < fuel → P (aBrFold μ v k z n) S → wp_X9_countBreaks_4 P fuel x n (nI z) S := by
  obtain ⟨_, _, ⟨sc, rsc, ⟨ksc, nsc, _⟩, hh⟩, _⟩ := hR
  intro k
  induction k with
  | zero =>
    intro z fuel n hz hf hP
    obtain ⟨f, rfl⟩ : ∃ f, fuel = f + 1 := ⟨fuel - 1, by omega⟩; rw [wp_X9_countBreaks_4]; unfold wb_X9_countBreaks_4; dsimp only
    refine ⟨fun _ => hP, fun z9 => absurd ((nI_leI (a := 9) (by decide) (by omega)).mpr (by omega)) z9⟩
  | succ k ih =>
    intro z fuel n hz hf hP
    obtain ⟨y, hy, hS⟩ := hh z (by omega)
    have r1 : hI S 100 y = μ (274 + 510 * v + 38 + z) := hS.2.2.1
    rw [aBrFold] at hP
    obtain ⟨f, rfl⟩ : ∃ f, fuel = f + 1 := ⟨fuel - 1, by omega⟩; rw [wp_X9_countBreaks_4]; unfold wb_X9_countBreaks_4; dsimp only
    rw [nI_1]
    refine ⟨fun z9 => absurd ((nI_leI (a := 9) (by decide) (by omega)).mp z9) (by omega), fun _ => ⟨sc, rsc, fun _ => ?_⟩⟩
    rw [nsc, nz_vp (by omega) (by decide), nI_clamp (n := z) (by omega), hy]
    refine ⟨by omega, fun o6 e6 _ => ⟨y, e6, fun _ v9 e9 v10 e10 => ?_⟩⟩
    rw [r1] at e9
    subst e9 e10
    exact ih (z + 1) f _ (by omega) (by omega) hP
theorem kd_X9_countBreaks (l : Launch) (D : va_G) (T : Nat → ClassId) (x0 : Nat) (S : HS) (e0 : (Nat → Prop)) (e1 : Nat → Int32) (e2 : Nat) (hx0 : hK S x0 = 10) (h : WF e1 ∧ e2 < 6 ∧ RelV S e0 x0 e1 e2) : CMi l yX9_countBreaks (ws_X9_countBreaks) rm_X9_countBreaks D T [.ref x0] S 0 0 (fun v S1 => v = (aBr e1 e2) ∧ S1 = S) := c_X9_countBreaks l D T x0 S hx0 _ <|
  (by
    obtain ⟨hw, hv, hR⟩ := h
    unfold wp_X9_countBreaks
    exact ⟨20, rl_cb hR 9 0 20 0 (by omega) (by omega) ⟨rfl, rfl⟩⟩)
theorem rl_as {P : Int32 → HS → Prop} {S : HS} {M : Nat → Prop} {x v : Nat} {μ : Nat → Int32} (hR : RelV S M x μ v) : ∀ (k a fuel : Nat) (n : Int32), a + k = 10 → k < fuel → P (eFold μ v k a n) S → wp_X9_accessorialSet_4 P fuel x n (nI a) S := by
  obtain ⟨_, _, _, ⟨ac, rac, ⟨kac, nac, _⟩, hh⟩⟩ := hR
  intro k
  induction k with
  | zero =>
    intro a fuel n ha hf hP
    obtain ⟨f, rfl⟩ : ∃ f, fuel = f + 1 := ⟨fuel - 1, by omega⟩; rw [wp_X9_accessorialSet_4]; unfold wb_X9_accessorialSet_4; dsimp only
    refine ⟨fun _ => hP, fun z9 => absurd ((nI_leI (a := 10) (by decide) (by omega)).mpr (by omega)) z9⟩
  | succ k ih =>
    intro a fuel n ha hf hP
    rw [eFold] at hP
    obtain ⟨f, rfl⟩ : ∃ f, fuel = f + 1 := ⟨fuel - 1, by omega⟩; rw [wp_X9_accessorialSet_4]; unfold wb_X9_accessorialSet_4; dsimp only
    rw [nI_1]
    refine ⟨fun z9 => absurd ((nI_leI (a := 10) (by decide) (by omega)).mp z9) (by omega), fun _ => ⟨ac, rac, fun _ => ?_⟩⟩
    rw [nac, nz_vp (by omega) (by decide), nI_clamp (n := a) (by omega)]
    refine ⟨by omega, fun o6 e6 _ => ⟨fun c9 v9 e9 => ?_, fun b7 c9 _ v10 e10 v11 e11 => ?_⟩⟩
    · subst e9
      rcases hh a (by omega) with ⟨h0, _⟩ | ⟨_, y, hy, _⟩
      · rw [if_neg (by rw [h0]; decide), Int32.or_zero] at hP
        exact ih (a + 1) f n (by omega) (by omega) hP
      · rw [hy] at e6; rw [e6] at c9; cases c9
    · subst e11
      rcases hh a (by omega) with ⟨_, hn⟩ | ⟨h1, _⟩
      · rw [hn] at e6; rw [e6] at c9; cases c9
      · rw [if_pos h1] at hP
        rw [e10]
        exact ih (a + 1) f _ (by omega) (by omega) hP
theorem kd_X9_accessorialSet (l : Launch) (D : va_G) (T : Nat → ClassId) (x0 : Nat) (S : HS) (e0 : (Nat → Prop)) (e1 : Nat → Int32) (e2 : Nat) (hx0 : hK S x0 = 10) (h : WF e1 ∧ e2 < 6 ∧ RelV S e0 x0 e1 e2) : CMi l yX9_accessorialSet (ws_X9_accessorialSet) rm_X9_accessorialSet D T [.ref x0] S 0 0 (fun v S1 => v = (eSet e1 e2) ∧ S1 = S) := c_X9_accessorialSet l D T x0 S hx0 _ <|
  (by
    obtain ⟨hw, hv, hR⟩ := h
    unfold wp_X9_accessorialSet
    exact ⟨20, rl_as hR 10 0 20 0 (by omega) (by omega) ⟨rfl, rfl⟩⟩)
theorem kd_X9_scaleOf (l : Launch) (D : va_G) (T : Nat → ClassId) (x0 : Nat) (p0 : Int32) (S : HS) (e0 : (Nat → Prop)) (e1 : Nat → Int32) (e2 : Nat) (hx0 : hK S x0 = 10) (h : WF e1 ∧ e2 < 6 ∧ RelV S e0 x0 e1 e2) : CMq l yX9_scaleOf (ws_X9_scaleOf) rm_X9_scaleOf D T [.ref x0, .int p0] S 0 0 5 (fun v S1 => (S1 = S ∧ (zin p0 1 9 = 0 → v = none) ∧ (¬ zin p0 1 9 = 0 → ∃ y, v = some y ∧ RelSc S e0 y e1 e2 (iv p0)))) := c_X9_scaleOf l D T x0 p0 S hx0 _ <|
  (by
    obtain ⟨hw, hv, hR⟩ := h
    obtain ⟨_, _, ⟨sc, rsc, ⟨ksc, nsc, _⟩, hh⟩, _⟩ := hR
    unfold wp_X9_scaleOf
    refine ⟨fun c9 => ⟨rfl, fun _ => rfl, fun z9 => absurd c9 z9⟩, fun c9 => ⟨sc, rsc, fun _ => ?_⟩⟩
    obtain ⟨z, hz1, hz9, rfl⟩ := zin_1 (m := 9) (by decide) c9
    obtain ⟨y, hy, hS⟩ := hh (z - 1) (by omega)
    rw [nsc, nI_p1 (by omega), nz_vp (by omega) (by decide), nI_clamp (n := z - 1) (by omega), hy]
    refine ⟨by omega, fun o10 e10 _ => ⟨rfl, fun z9 => absurd z9 c9, fun _ => ⟨y, e10, ?_⟩⟩⟩
    rw [show iv (nI z) = z from nI_clamp (by omega)]
    rw [show z - 1 + 1 = z by omega] at hS
    exact hS)
theorem kd_X9_accessorialAt (l : Launch) (D : va_G) (T : Nat → ClassId) (x0 : Nat) (p0 : Int32) (S : HS) (e0 : (Nat → Prop)) (e1 : Nat → Int32) (e2 : Nat) (hx0 : hK S x0 = 10) (h : WF e1 ∧ e2 < 6 ∧ RelV S e0 x0 e1 e2) : CMq l yX9_accessorialAt (ws_X9_accessorialAt) rm_X9_accessorialAt D T [.ref x0, .int p0] S 0 0 1 (fun v S1 => (S1 = S ∧ (¬ acX e1 e2 p0 → v = none) ∧ (acX e1 e2 p0 → ∃ y, v = some y ∧ RelA S e0 y e1 e2 (iv p0)))) := c_X9_accessorialAt l D T x0 p0 S hx0 _ <|
  (by
    obtain ⟨hw, hv, hR⟩ := h
    obtain ⟨_, _, _, ⟨ac, rac, ⟨kac, nac, _⟩, hh⟩⟩ := hR
    unfold wp_X9_accessorialAt
    refine ⟨fun c9 => ⟨rfl, fun _ => rfl, fun z9 => absurd c9 z9.1⟩, fun c9 => ⟨ac, rac, fun _ => ?_⟩⟩
    obtain ⟨a, ha, rfl⟩ := zin_n (m := 9) (by decide) c9
    have ia : iv (nI a) = a := nI_clamp (by omega)
    rw [nac, nz_vp (by omega) (by decide), nI_clamp (n := a) (by omega)]
    refine ⟨by omega, fun o10 e10 _ => ⟨rfl, fun z9 => ?_, fun z9 => ?_⟩⟩
    · rcases hh a (by omega) with ⟨_, hn⟩ | ⟨h1, _⟩
      · rw [e10, hn]
      · refine absurd ⟨c9, ?_⟩ z9
        rw [ia, h1]; decide
    · unfold acX at z9
      rw [ia] at z9
      rcases hh a (by omega) with ⟨h0, _⟩ | ⟨_, y, hy, hA⟩
      · exact absurd h0 z9.2
      · exact ⟨y, e10.trans hy, by rw [ia]; exact hA⟩)
theorem kd_X6_versionAt (l : Launch) (D : va_G) (T : Nat → ClassId) (x0 : Nat) (p0 : Int32) (S : HS) (e0 : (Nat → Prop)) (e1 : Nat → Int32) (hx0 : hK S x0 = 7) (h : WF e1 ∧ RelSt S e0 x0 e1) : CMq l yX6_versionAt (ws_X6_versionAt) rm_X6_versionAt D T [.ref x0, .int p0] S 0 0 10 (fun v S1 => (S1 = S ∧ (zin p0 0 (e1 0 - 1) = 0 → v = none) ∧ (¬ zin p0 0 (e1 0 - 1) = 0 → ∃ y, v = some y ∧ RelV S e0 y e1 (iv p0)))) := c_X6_versionAt l D T x0 p0 S hx0 _ <|
  (by
    obtain ⟨hw, ⟨_, e141, _⟩, ⟨b, rb, kb, nb, hb⟩, _⟩ := h
    obtain ⟨n, hn, en⟩ := hw.1
    unfold wp_X6_versionAt
    rw [e141]
    refine ⟨fun c9 => ⟨rfl, fun _ => rfl, fun z9 => absurd c9 z9⟩, fun c9 => ⟨b, rb, fun _ => ?_⟩⟩
    obtain ⟨v, m, hv, hm, em, rfl⟩ := vers_ix hw c9
    have i0 : iv (e1 0) = m := by rw [em]; exact nI_clamp (by omega)
    obtain ⟨y, hy, hS⟩ := hb v (by omega)
    rw [nb, nz_vp (by omega) (by decide), nI_clamp (n := v) (by omega), hy]
    refine ⟨by omega, fun o10 e10 _ => ⟨rfl, fun z9 => absurd z9 c9, fun _ => ⟨y, e10, ?_⟩⟩⟩
    rw [show iv (nI v) = v from nI_clamp (by omega)]
    exact hS)
theorem kd_X6_shipmentAt (l : Launch) (D : va_G) (T : Nat → ClassId) (x0 : Nat) (p0 : Int32) (S : HS) (e0 : (Nat → Prop)) (e1 : Nat → Int32) (hx0 : hK S x0 = 7) (h : WF e1 ∧ RelSt S e0 x0 e1) : CMq l yX6_shipmentAt (ws_X6_shipmentAt) rm_X6_shipmentAt D T [.ref x0, .int p0] S 0 0 6 (fun v S1 => (S1 = S ∧ (zin p0 0 (e1 1 - 1) = 0 → v = none) ∧ (¬ zin p0 0 (e1 1 - 1) = 0 → ∃ y, v = some y ∧ RelS S e0 y e1 (iv p0)))) := c_X6_shipmentAt l D T x0 p0 S hx0 _ <|
  (by
    obtain ⟨hw, ⟨_, _, e143, _⟩, _, ⟨b, rb, kb, nb, hb⟩, _⟩ := h
    unfold wp_X6_shipmentAt
    rw [e143]
    refine ⟨fun c9 => ⟨rfl, fun _ => rfl, fun z9 => absurd c9 z9⟩, fun c9 => ⟨b, rb, fun _ => ?_⟩⟩
    obtain ⟨v, m, hv, hm, em, rfl⟩ := ship_ix hw c9
    have i0 : iv (e1 1) = m := by rw [em]; exact nI_clamp (by omega)
    obtain ⟨y, hy, hS⟩ := hb v (by omega)
    rw [nb, nz_vp (by omega) (by decide), nI_clamp (n := v) (by omega), hy]
    refine ⟨by omega, fun o10 e10 _ => ⟨rfl, fun z9 => absurd z9 c9, fun _ => ⟨y, e10, ?_⟩⟩⟩
    rw [show iv (nI v) = v from nI_clamp (by omega)]
    exact hS)

end S_DRAFT
