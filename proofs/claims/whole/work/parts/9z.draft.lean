section S_DRAFT
theorem zv {μ : Nat → Int32} (hw : WF μ) {p : Int32} (h : ¬ zin p 0 (μ 0 - 1) = 0) : iv p < 6 ∧ iv p < iv (μ 0) ∧ p = nI (iv p) := by
  obtain ⟨n, hn, e⟩ := hw.1
  rw [e] at h ⊢
  obtain ⟨j, hj, ej⟩ := zin_m (by omega) h
  have e1 : iv p = j := by rw [ej]; exact nI_clamp (by omega)
  have e2 : iv (nI n) = n := nI_clamp (by omega)
  rw [e1, e2]
  exact ⟨by omega, hj, ej⟩
theorem zs {μ : Nat → Int32} (hw : WF μ) {p : Int32} (h : ¬ zin p 0 (μ 1 - 1) = 0) : iv p < 10 ∧ iv p < iv (μ 1) ∧ p = nI (iv p) := by
  obtain ⟨n, hn, e⟩ := hw.2.1
  rw [e] at h ⊢
  obtain ⟨j, hj, ej⟩ := zin_m (by omega) h
  have e1 : iv p = j := by rw [ej]; exact nI_clamp (by omega)
  have e2 : iv (nI n) = n := nI_clamp (by omega)
  rw [e1, e2]
  exact ⟨by omega, hj, ej⟩
theorem zz {p : Int32} (h : ¬ zin p 1 9 = 0) : 1 ≤ iv p ∧ iv p ≤ 9 ∧ p = nI (iv p) := by
  obtain ⟨j, h1, h2, e⟩ := zin_1 (m := 9) (by decide) h
  have e1 : iv p = j := by rw [e]; exact nI_clamp (by omega)
  rw [e1]
  exact ⟨h1, h2, e⟩
theorem kd_X10_requireShipment (l : Launch) (hst : l.stackTraces = false) (D : va_G) (T : Nat → ClassId) (x0 : Nat) (p0 : Int32) (S : HS) (e0 : (Nat → Nat)) (e1 : (Nat → Nat → Int32)) (e2 : (Nat → Int32)) (e3 : (Nat → Int32)) (e4 : (List Int32)) (mc ms : Nat) (hx0 : hK S x0 = 11) (h : FrS S e0 e1 e2 e3 e4 ∧ x0 = e0 50 ∧ 1 ≤ mc ∧ 6 ≤ ms) : CXq l yX10_requireShipment (ws_X10_requireShipment) rm_X10_requireShipment D T [.ref x0, .int p0] S mc ms 6 (fun v S1 => (S1 = S ∧ ¬ zin p0 0 (e1 0 1 - 1) = 0 ∧ ∃ y, v = some y ∧ RelS S (fxM e0) y (e1 0) (iv p0))) (fun E9 S1 => zin p0 0 (e1 0 1 - 1) = 0 ∧ E9 = "java/lang/IndexOutOfBoundsException" ∧ S1 = S) := c_X10_requireShipment l hst D T x0 p0 S mc ms hx0 _ _ <|
  (by
    obtain ⟨h, e, hmc, hms⟩ := h
    subst e
    unfold wp_X10_requireShipment
    refine ⟨e0 0, h.r0, fun _ => ⟨fxM e0, e1 0, h.now, fun o S7 _ _ h7 => ?_⟩⟩
    obtain ⟨e7, hn, hs⟩ := h7
    subst e7
    by_cases c : zin p0 0 (e1 0 1 - 1) = 0
    · rw [hn c]
      exact ⟨fun _ => ⟨⟨hmc, hms⟩, c, rfl, rfl⟩, fun b hb => by cases hb⟩
    · obtain ⟨y, ey, hy⟩ := hs c
      rw [ey]
      refine ⟨fun z => (by cases z), fun b hb _ => ?_⟩
      cases hb
      exact ⟨rfl, c, b, rfl, hy⟩)
theorem kd_X10_findScale (l : Launch) (D : va_G) (T : Nat → ClassId) (x0 : Nat) (p0 : Int32) (p1 : Int32) (S : HS) (e0 : (Nat → Nat)) (e1 : (Nat → Nat → Int32)) (e2 : (Nat → Int32)) (e3 : (Nat → Int32)) (e4 : (List Int32)) (hx0 : hK S x0 = 11) (h : FrS S e0 e1 e2 e3 e4 ∧ x0 = e0 50) : CMq l yX10_findScale (ws_X10_findScale) rm_X10_findScale D T [.ref x0, .int p0, .int p1] S 0 0 5 (fun v S1 => (S1 = S ∧ ((zin p0 0 (e1 0 0 - 1) = 0 ∨ zin p1 1 9 = 0) → v = none) ∧ (¬ zin p0 0 (e1 0 0 - 1) = 0 → ¬ zin p1 1 9 = 0 → ∃ y, v = some y ∧ RelSc S (fxM e0) y (e1 0) (iv p0) (iv p1)))) := c_X10_findScale l D T x0 p0 p1 S hx0 _ <|
  (by
    obtain ⟨h, e⟩ := h
    subst e
    unfold wp_X10_findScale
    refine ⟨e0 0, h.r0, fun _ => ⟨fxM e0, e1 0, h.now, fun o S7 _ _ h7 => ?_⟩⟩
    obtain ⟨e7, hn, hs⟩ := h7
    subst e7
    by_cases c : zin p0 0 (e1 0 0 - 1) = 0
    · rw [hn c]
      exact ⟨fun _ => ⟨rfl, fun _ => rfl, fun z => absurd c z⟩, fun b hb => by cases hb⟩
    · obtain ⟨y, ey, hy⟩ := hs c
      rw [ey]
      refine ⟨fun z => (by cases z), fun b hb _ => ?_⟩
      cases hb
      refine ⟨fxM e0, e1 0, iv p0, ⟨h.now.1, (zv h.now.1 c).1, hy⟩, fun o S21 _ _ h21 => ?_⟩
      obtain ⟨e21, gn, gs⟩ := h21
      refine ⟨e21, fun z => ?_, fun _ z => ?_⟩
      · rcases z with z | z
        · exact absurd z c
        · exact gn z
      · obtain ⟨w, ew, hw, _⟩ := gs z
        exact ⟨w, ew, hw⟩)
theorem kd_X10_requireAccessorial (l : Launch) (hst : l.stackTraces = false) (D : va_G) (T : Nat → ClassId) (x0 : Nat) (p0 : Int32) (p1 : Int32) (S : HS) (e0 : (Nat → Nat)) (e1 : (Nat → Nat → Int32)) (e2 : (Nat → Int32)) (e3 : (Nat → Int32)) (e4 : (List Int32)) (mc ms : Nat) (hx0 : hK S x0 = 11) (h : FrS S e0 e1 e2 e3 e4 ∧ x0 = e0 50 ∧ 1 ≤ mc ∧ 6 ≤ ms) : CXq l yX10_requireAccessorial (ws_X10_requireAccessorial) rm_X10_requireAccessorial D T [.ref x0, .int p0, .int p1] S mc ms 1 (fun v S1 => (S1 = S ∧ wrC (e1 0) p0 p1 = 0 ∧ ∃ y, v = some y ∧ RelA S (fxM e0) y (e1 0) (iv p0) (iv p1))) (fun E9 S1 => ((wrC (e1 0) p0 p1 = 1 ∧ E9 = "java/lang/IndexOutOfBoundsException") ∨ (wrC (e1 0) p0 p1 = 2 ∧ E9 = "java/util/NoSuchElementException")) ∧ S1 = S) := c_X10_requireAccessorial l hst D T x0 p0 p1 S mc ms hx0 _ _ <|
  (by
    obtain ⟨h, e, hmc, hms⟩ := h
    subst e
    unfold wp_X10_requireAccessorial
    refine ⟨e0 0, h.r0, fun _ => ⟨fxM e0, e1 0, h.now, fun o S7 _ _ h7 => ?_⟩⟩
    obtain ⟨e7, hn, hs⟩ := h7
    subst e7
    by_cases c : zin p0 0 (e1 0 0 - 1) = 0
    · rw [hn c]
      exact ⟨fun _ => ⟨⟨hmc, hms⟩, Or.inl ⟨by unfold wrC; rw [if_pos c], rfl⟩, rfl⟩, fun b hb => by cases hb⟩
    · obtain ⟨y, ey, hy⟩ := hs c
      rw [ey]
      refine ⟨fun z => (by cases z), fun b hb _ => ?_⟩
      cases hb
      refine ⟨fxM e0, e1 0, iv p0, ⟨h.now.1, (zv h.now.1 c).1, hy⟩, fun o S22 _ _ h22 => ?_⟩
      obtain ⟨e22, gn, gs⟩ := h22
      subst e22
      by_cases c2 : acX (e1 0) (iv p0) p1
      · obtain ⟨w, ew, hw⟩ := gs c2
        rw [ew]
        refine ⟨fun z => (by cases z), fun b9 hb _ => ?_⟩
        cases hb
        exact ⟨rfl, by unfold wrC; rw [if_neg c, if_neg c2.1, if_neg c2.2], b9, rfl, hw⟩
      · rw [gn c2]
        refine ⟨fun _ => ⟨⟨hmc, hms⟩, Or.inr ⟨?_, rfl⟩, rfl⟩, fun b hb => by cases hb⟩
        unfold wrC
        rw [if_neg c]
        by_cases c3' : zin p1 0 9 = 0
        · rw [if_pos c3']
        · rw [if_neg c3', if_pos]
          by_cases c4 : e1 0 (274 + 510 * iv p0 + 150 + 36 * iv p1) = 0
          · exact c4
          · exact absurd ⟨c3', c4⟩ c2)
theorem kd_X10_versionOn (l : Launch) (hst : l.stackTraces = false) (D : va_G) (T : Nat → ClassId) (x0 : Nat) (p0 : Int32) (S : HS) (e0 : (Nat → Nat)) (e1 : (Nat → Nat → Int32)) (e2 : (Nat → Int32)) (e3 : (Nat → Int32)) (e4 : (List Int32)) (mc ms : Nat) (hx0 : hK S x0 = 11) (h : FrS S e0 e1 e2 e3 e4 ∧ x0 = e0 50 ∧ 200 ≤ mc ∧ 2000 ≤ ms) : CXi l yX10_versionOn (ws_X10_versionOn) rm_X10_versionOn D T [.ref x0, .int p0] S mc ms (fun v S1 => (vonC (e1 0) p0 = 0 ∧ v = vOf (e1 0) p0 ∧ FrS S1 e0 e1 e2 e3 e4)) (fun E9 S1 => ((vonC (e1 0) p0 = 1 ∧ E9 = "java/lang/IllegalArgumentException") ∨ (vonC (e1 0) p0 = 2 ∧ E9 = "java/util/NoSuchElementException")) ∧ FrS S1 e0 e1 e2 e3 e4) := c_X10_versionOn l hst D T x0 p0 S mc ms hx0 _ _ <|
  (by
    obtain ⟨h, e, hmc, hms⟩ := h
    subst e
    unfold wp_X10_versionOn vonC
    refine ⟨fun c => ⟨e0 0, h.r0, fun _ => ⟨fxM e0, e1 0, h.now, fun v ev => ⟨fun c2 => ?_, fun c2 => ⟨⟨by omega, by omega⟩, ?_⟩⟩⟩⟩, fun c => ⟨⟨by omega, by omega⟩, Or.inl ⟨by rw [if_pos c], rfl⟩, h⟩⟩
    · rw [ev] at c2
      rw [if_neg c, if_neg (Int32.not_lt.mpr c2)]
      exact ⟨rfl, ev, h⟩
    · rw [ev] at c2
      exact ⟨Or.inr ⟨by rw [if_neg c, if_pos (Int32.not_le.mp c2)], rfl⟩, h⟩)
theorem kd_X10_version (l : Launch) (hst : l.stackTraces = false) (D : va_G) (T : Nat → ClassId) (x0 : Nat) (p0 : Int32) (p1 : Int32) (S : HS) (e0 : (Nat → Nat)) (e1 : (Nat → Nat → Int32)) (e2 : (Nat → Int32)) (e3 : (Nat → Int32)) (e4 : (List Int32)) (mc ms : Nat) (hx0 : hK S x0 = 11) (h : FrS S e0 e1 e2 e3 e4 ∧ x0 = e0 50 ∧ 200 ≤ mc ∧ 2000 ≤ ms) : CXi l yX10_version (ws_X10_version) rm_X10_version D T [.ref x0, .int p0, .int p1] S mc ms (fun v S1 => (verC (e1 0) p0 p1 = 0 ∧ v = verA (e1 0) (iv p0) p1 ∧ FrS S1 e0 e1 e2 e3 e4)) (fun E9 S1 => ((verC (e1 0) p0 p1 = 1 ∧ E9 = "java/lang/IndexOutOfBoundsException") ∨ (verC (e1 0) p0 p1 = 2 ∧ E9 = "java/lang/IllegalArgumentException")) ∧ FrS S1 e0 e1 e2 e3 e4) := c_X10_version l hst D T x0 p0 p1 S mc ms hx0 _ _ <|
  (by
    obtain ⟨h, e, hmc, hms⟩ := h
    subst e
    unfold wp_X10_version
    refine ⟨e0 0, h.r0, fun _ => ⟨fxM e0, e1 0, h.now, fun o S7 _ _ h7 => ?_⟩⟩
    obtain ⟨e7, hn, hs⟩ := h7
    subst e7
    by_cases c : zin p0 0 (e1 0 0 - 1) = 0
    · rw [hn c]
      exact ⟨fun _ => ⟨⟨by omega, by omega⟩, Or.inl ⟨by unfold verC; rw [if_pos c], rfl⟩, h⟩, fun b hb => by cases hb⟩
    · obtain ⟨y, ey, hy⟩ := hs c
      rw [ey]
      refine ⟨fun z => (by cases z), fun b hb _ => ?_⟩
      cases hb
      have hv := (zv h.now.1 c).1
      obtain ⟨_, _, v0, v1, v6, v7, v8, v9⟩ := hy.1
      have va : ∀ w : Nat, 2 ≤ w → w < 6 → verA (e1 0) (iv p0) (nI w) = e1 0 (274 + 510 * iv p0 + (144 + w)) := fun w h2 h6 => by
        unfold verA
        rw [if_neg (fun z => by have := (nI_eq (b := 0) (by omega) (by decide)).mp z; omega), if_neg (fun z => by have := (nI_eq (b := 1) (by omega) (by decide)).mp z; omega), if_neg (fun z => by have := (nI_eq (b := 6) (by omega) (by decide)).mp z; omega), if_neg (fun z => by have := (nI_eq (b := 7) (by omega) (by decide)).mp z; omega), show iv (nI w) = w from nI_clamp (by omega), show 274 + 510 * iv p0 + 146 + w - 2 = 274 + 510 * iv p0 + (144 + w) by omega]
      have ok : ∀ w : Int32, ¬ zin w 0 7 = 0 → verC (e1 0) p0 w = 0 := fun w hw => by unfold verC; rw [if_neg c, if_neg hw]
      refine ⟨fun c0 => ?_, fun d0 => ⟨fun c1 => ?_, fun d1 => ⟨fun c2 => ?_, fun d2 => ⟨fun c3' => ?_, fun d3 => ⟨fun c4 => ?_, fun d4 => ⟨fun c5 => ?_, fun d5 => ⟨fun c6 => ?_, fun d6 => ⟨fun c7 => ?_, fun d7 => ?_⟩⟩⟩⟩⟩⟩⟩⟩
      · subst c0; exact ⟨ok _ (by decide), by rw [v0]; rfl, h⟩
      · subst c1; exact ⟨ok _ (by decide), by rw [v1]; rfl, h⟩
      · subst c2; exact ⟨ok _ (by decide), v6.trans (va 2 (by omega) (by omega)).symm, h⟩
      · subst c3'; exact ⟨ok _ (by decide), v7.trans (va 3 (by omega) (by omega)).symm, h⟩
      · subst c4; exact ⟨ok _ (by decide), v8.trans (va 4 (by omega) (by omega)).symm, h⟩
      · subst c5; exact ⟨ok _ (by decide), v9.trans (va 5 (by omega) (by omega)).symm, h⟩
      · subst c6; exact ⟨fxM e0, e1 0, iv p0, ⟨h.now.1, hv, hy⟩, ok _ (by decide), rfl, h⟩
      · subst c7; exact ⟨fxM e0, e1 0, iv p0, ⟨h.now.1, hv, hy⟩, ok _ (by decide), rfl, h⟩
      · refine ⟨⟨by omega, by omega⟩, Or.inr ⟨?_, rfl⟩, h⟩
        unfold verC
        rw [if_neg c, if_pos]
        by_cases g : zin p1 0 7 = 0
        · exact g
        · obtain ⟨j, hj, ej⟩ := zin_n (m := 7) (by decide) g
          subst ej
          have : j = 0 ∨ j = 1 ∨ j = 2 ∨ j = 3 ∨ j = 4 ∨ j = 5 ∨ j = 6 ∨ j = 7 := by omega
          rcases this with z | z | z | z | z | z | z | z <;> subst z
          · exact absurd rfl d0
          · exact absurd rfl d1
          · exact absurd rfl d2
          · exact absurd rfl d3
          · exact absurd rfl d4
          · exact absurd rfl d5
          · exact absurd rfl d6
          · exact absurd rfl d7)
theorem kd_X10_zoneOf (l : Launch) (hst : l.stackTraces = false) (D : va_G) (T : Nat → ClassId) (x0 : Nat) (p0 : Int32) (p1 : Int32) (S : HS) (e0 : (Nat → Nat)) (e1 : (Nat → Nat → Int32)) (e2 : (Nat → Int32)) (e3 : (Nat → Int32)) (e4 : (List Int32)) (mc ms : Nat) (hx0 : hK S x0 = 11) (h : FrS S e0 e1 e2 e3 e4 ∧ x0 = e0 50 ∧ 200 ≤ mc ∧ 2000 ≤ ms) : CXi l yX10_zoneOf (ws_X10_zoneOf) rm_X10_zoneOf D T [.ref x0, .int p0, .int p1] S mc ms (fun v S1 => (zonC (e1 0) p0 p1 = 0 ∧ v = zIn (e1 0) (iv p0) p1 ∧ FrS S1 e0 e1 e2 e3 e4)) (fun E9 S1 => ((zonC (e1 0) p0 p1 = 1 ∧ E9 = "java/lang/IndexOutOfBoundsException") ∨ (zonC (e1 0) p0 p1 = 2 ∧ E9 = "java/util/NoSuchElementException")) ∧ FrS S1 e0 e1 e2 e3 e4) := c_X10_zoneOf l hst D T x0 p0 p1 S mc ms hx0 _ _ <|
  (by
    obtain ⟨h, e, hmc, hms⟩ := h
    subst e
    unfold wp_X10_zoneOf
    refine ⟨e0 0, h.r0, fun _ => ⟨fxM e0, e1 0, h.now, fun o S7 _ _ h7 => ?_⟩⟩
    obtain ⟨e7, hn, hs⟩ := h7
    subst e7
    by_cases c : zin p0 0 (e1 0 0 - 1) = 0
    · rw [hn c]
      exact ⟨fun _ => ⟨⟨by omega, by omega⟩, Or.inl ⟨by unfold zonC; rw [if_pos c], rfl⟩, h⟩, fun b hb => by cases hb⟩
    · obtain ⟨y, ey, hy⟩ := hs c
      rw [ey]
      refine ⟨fun z => (by cases z), fun b hb _ => ?_⟩
      cases hb
      refine ⟨fun c2 => ⟨fxM e0, e1 0, iv p0, ⟨h.now.1, (zv h.now.1 c).1, hy⟩, fun v ev => ⟨fun c4 => ?_, fun c4 => ⟨⟨by omega, by omega⟩, ?_⟩⟩⟩, fun c2 => ⟨⟨by omega, by omega⟩, Or.inl ⟨by unfold zonC; rw [if_neg c, if_pos c2], rfl⟩, h⟩⟩
      · rw [ev] at c4
        exact ⟨by unfold zonC; rw [if_neg c, if_neg c2, if_neg c4], ev, h⟩
      · rw [ev] at c4
        exact ⟨Or.inr ⟨by unfold zonC; rw [if_neg c, if_neg c2, if_pos c4], rfl⟩, h⟩)
theorem kd_X10_base (l : Launch) (hst : l.stackTraces = false) (D : va_G) (T : Nat → ClassId) (x0 : Nat) (p0 : Int32) (p1 : Int32) (p2 : Int32) (S : HS) (e0 : (Nat → Nat)) (e1 : (Nat → Nat → Int32)) (e2 : (Nat → Int32)) (e3 : (Nat → Int32)) (e4 : (List Int32)) (mc ms : Nat) (hx0 : hK S x0 = 11) (h : FrS S e0 e1 e2 e3 e4 ∧ x0 = e0 50 ∧ 200 ≤ mc ∧ 2000 ≤ ms) : CXi l yX10_base (ws_X10_base) rm_X10_base D T [.ref x0, .int p0, .int p1, .int p2] S mc ms (fun v S1 => (basC (e1 0) p0 p1 p2 = 0 ∧ v = baseF (e1 0) (iv p0) (iv p1) p2 ∧ FrS S1 e0 e1 e2 e3 e4)) (fun E9 S1 => ((basC (e1 0) p0 p1 p2 = 1 ∧ E9 = "java/lang/IndexOutOfBoundsException") ∨ (basC (e1 0) p0 p1 p2 = 2 ∧ E9 = "java/lang/IllegalArgumentException") ∨ (basC (e1 0) p0 p1 p2 = 3 ∧ E9 = "java/util/NoSuchElementException")) ∧ FrS S1 e0 e1 e2 e3 e4) := c_X10_base l hst D T x0 p0 p1 p2 S mc ms hx0 _ _ <|
  (by
    obtain ⟨h, e, hmc, hms⟩ := h
    have hh : FrS S e0 e1 e2 e3 e4 ∧ x0 = e0 50 := ⟨h, e⟩
    unfold wp_X10_base
    refine ⟨e0, e1, e2, e3, e4, hh, fun o S1 _ _ h1 => ?_⟩
    obtain ⟨e1', hn, hs⟩ := h1
    subst e1'
    by_cases c : zin p0 0 (e1 0 0 - 1) = 0
    · rw [hn (Or.inl c)]
      exact ⟨fun _ => ⟨⟨by omega, by omega⟩, Or.inl ⟨by unfold basC; rw [if_pos c], rfl⟩, h⟩, fun b hb => by cases hb⟩
    by_cases c2 : zin p1 1 9 = 0
    · rw [hn (Or.inr c2)]
      exact ⟨fun _ => ⟨⟨by omega, by omega⟩, Or.inl ⟨by unfold basC; rw [if_neg c, if_pos c2], rfl⟩, h⟩, fun b hb => by cases hb⟩
    obtain ⟨y, ey, hy⟩ := hs c c2
    rw [ey]
    refine ⟨fun z => (by cases z), fun b hb _ => ?_⟩
    cases hb
    have hv := zv h.now.1 c
    have hz := zz c2
    refine ⟨fun c4 => ⟨fxM e0, e1 0, iv p0, iv p1, ⟨h.now.1, hv.1, hz.1, hz.2.1, hy⟩, fun v ev => ?_⟩, fun c4 => ⟨⟨by omega, by omega⟩, Or.inr (Or.inl ⟨by unfold basC; rw [if_neg c, if_neg c2, if_pos c4], rfl⟩), h⟩⟩
    by_cases c5 : e1 0 (274 + 510 * iv p0 + 38 + iv p1 - 1) = 0
    · rw [if_pos c5] at ev
      refine ⟨fun z => absurd z (by rw [ev]; decide), fun _ => ⟨⟨by omega, by omega⟩, Or.inr (Or.inr ⟨by unfold basC; rw [if_neg c, if_neg c2, if_neg c4, if_pos c5], rfl⟩), h⟩⟩
    · rw [if_neg c5] at ev
      have hb : chpF (e1 0) (iv p0) (iv p1) p2 < 2 ^ 31 := Nat.lt_trans (chpF_lt h.now.1 hv.1 hz.1 hz.2.1) (by decide)
      refine ⟨fun _ => ⟨fxM e0, e1 0, iv p0, iv p1, ⟨h.now.1, hv.1, hz.1, hz.2.1, hy, ev, c5⟩, by unfold basC; rw [if_neg c, if_neg c2, if_neg c4, if_neg c5], rfl, h⟩, fun z => absurd (by rw [ev]; exact nI_pos' hb) z⟩)
theorem kd_X10_account (l : Launch) (hst : l.stackTraces = false) (D : va_G) (T : Nat → ClassId) (x0 : Nat) (p0 : Int32) (S : HS) (e0 : (Nat → Nat)) (e1 : (Nat → Nat → Int32)) (e2 : (Nat → Int32)) (e3 : (Nat → Int32)) (e4 : (List Int32)) (mc ms : Nat) (hx0 : hK S x0 = 11) (h : FrS S e0 e1 e2 e3 e4 ∧ x0 = e0 50 ∧ 200 ≤ mc ∧ 2000 ≤ ms) : CXi l yX10_account (ws_X10_account) rm_X10_account D T [.ref x0, .int p0] S mc ms (fun v S1 => (auC p0 = 0 ∧ v = auA (e1 0) p0 ∧ FrS S1 e0 e1 e2 e3 e4)) (fun E9 S1 => ((auC p0 = 1 ∧ E9 = "java/lang/IllegalArgumentException")) ∧ FrS S1 e0 e1 e2 e3 e4) := c_X10_account l hst D T x0 p0 S mc ms hx0 _ _ <|
  (by
    obtain ⟨h, e, hmc, hms⟩ := h
    subst e
    unfold wp_X10_account
    refine ⟨fun c => ⟨fun c4 => ⟨e0 0, h.r0, fun _ => ⟨fxM e0, e1 0, h.now, ?_⟩⟩, fun d4 => ⟨fun c5 => ⟨e0 0, h.r0, fun _ => ?_⟩, fun d5 => ⟨fun c6 => ⟨e0 0, h.r0, fun _ => ⟨fxM e0, e1 0, h.now, ?_⟩⟩, fun d6 => ⟨e0 0, h.r0, fun _ => ⟨fxM e0, e1 0, ⟨h.now.1, h.now.2, d4⟩, ?_⟩⟩⟩⟩⟩, fun c => ⟨⟨by omega, by omega⟩, ⟨by unfold auC; rw [if_pos c], rfl⟩, h⟩⟩
    · subst c4; exact ⟨by unfold auC; rw [if_neg c], by unfold auA; rw [if_neg (by decide)], h⟩
    · subst c5; exact ⟨by unfold auC; rw [if_neg c], by rw [h.now.2.1.2.2.2.2]; rfl, h⟩
    · subst c6; exact ⟨by unfold auC; rw [if_neg c], by unfold auA; rw [if_pos (by decide), if_neg (by decide)], h⟩
    · refine ⟨by unfold auC; rw [if_neg c], ?_, h⟩
      unfold auA
      rw [if_neg]
      intro z
      obtain ⟨j, hj, ej⟩ := zin_n (m := 6) (by decide) c
      subst ej
      have z := (nI_leI (a := 5) (by decide) (by omega)).mp z
      have : j = 5 ∨ j = 6 := by omega
      rcases this with q | q <;> subst q
      · exact d5 rfl
      · exact d6 rfl)
theorem kd_X10_rebate (l : Launch) (hst : l.stackTraces = false) (D : va_G) (T : Nat → ClassId) (x0 : Nat) (p0 : Int32) (S : HS) (e0 : (Nat → Nat)) (e1 : (Nat → Nat → Int32)) (e2 : (Nat → Int32)) (e3 : (Nat → Int32)) (e4 : (List Int32)) (mc ms : Nat) (hx0 : hK S x0 = 11) (h : FrS S e0 e1 e2 e3 e4 ∧ x0 = e0 50 ∧ 200 ≤ mc ∧ 2000 ≤ ms) : CXi l yX10_rebate (ws_X10_rebate) rm_X10_rebate D T [.ref x0, .int p0] S mc ms (fun v S1 => (rbC p0 = 0 ∧ v = rebF (e1 0) p0 ∧ FrS S1 e0 e1 e2 e3 e4)) (fun E9 S1 => ((rbC p0 = 1 ∧ E9 = "java/lang/IllegalArgumentException")) ∧ FrS S1 e0 e1 e2 e3 e4) := c_X10_rebate l hst D T x0 p0 S mc ms hx0 _ _ <|
  (by
    obtain ⟨h, e, hmc, hms⟩ := h
    subst e
    unfold wp_X10_rebate
    refine ⟨fun c => ⟨e0 0, h.r0, fun _ => ⟨fxM e0, e1 0, ⟨h.now.1, h.now.2, fun z => c (by rw [z]; rfl)⟩, fun v ev => ⟨e0 0, h.r0, fun _ => ⟨fxM e0, e1 0, ⟨h.now.1, h.now.2, (h.2.1 0 (by omega)).1.2.2.1⟩, ?_⟩⟩⟩⟩, fun c => ⟨⟨by omega, by omega⟩, ⟨by unfold rbC; rw [if_pos c], rfl⟩, h⟩⟩
    refine ⟨by unfold rbC; rw [if_neg c], ?_, h⟩
    rw [ev]
    rfl)
theorem kd_X10_shipment (l : Launch) (hst : l.stackTraces = false) (D : va_G) (T : Nat → ClassId) (x0 : Nat) (p0 : Int32) (p1 : Int32) (S : HS) (e0 : (Nat → Nat)) (e1 : (Nat → Nat → Int32)) (e2 : (Nat → Int32)) (e3 : (Nat → Int32)) (e4 : (List Int32)) (mc ms : Nat) (hx0 : hK S x0 = 11) (h : FrS S e0 e1 e2 e3 e4 ∧ x0 = e0 50 ∧ 200 ≤ mc ∧ 2000 ≤ ms) : CXi l yX10_shipment (ws_X10_shipment) rm_X10_shipment D T [.ref x0, .int p0, .int p1] S mc ms (fun v S1 => (shpC (e1 0) p0 p1 = 0 ∧ v = shpA (e1 0) (iv p0) p1 ∧ FrS S1 e0 e1 e2 e3 e4)) (fun E9 S1 => ((shpC (e1 0) p0 p1 = 1 ∧ E9 = "java/lang/IndexOutOfBoundsException") ∨ (shpC (e1 0) p0 p1 = 2 ∧ E9 = "java/lang/IllegalArgumentException")) ∧ FrS S1 e0 e1 e2 e3 e4) := c_X10_shipment l hst D T x0 p0 p1 S mc ms hx0 _ _ <|
  (by
    obtain ⟨h, e, hmc, hms⟩ := h
    unfold wp_X10_shipment
    refine ⟨1, 6, ⟨by omega, by omega⟩, e0, e1, e2, e3, e4, ⟨h, e, Nat.le_refl _, Nat.le_refl _⟩, fun E9 S9 _ h9 => ?_, fun o S10 _ _ h10 => ?_⟩
    · obtain ⟨c, eE, eS⟩ := h9
      subst eS
      exact ⟨Or.inl ⟨by unfold shpC; rw [if_pos c], eE⟩, h⟩
    obtain ⟨eS, c, y, ey, hy⟩ := h10
    subst eS
    refine ⟨y, ey, fun _ => ?_⟩
    have hv := (zs h.now.1 c).1
    have hy9 := hy
    obtain ⟨_, _, v0, v1, v2, v3, v4, v6, v7, v8, _⟩ := hy9
    have va : ∀ w : Nat, w < 5 → shpA (e1 0) (iv p0) (nI w) = e1 0 (14 + 26 * iv p0 + w) := fun w h6 => by
      unfold shpA
      rw [if_neg (fun z => by have := (nI_eq (b := 5) (by omega) (by decide)).mp z; omega), if_neg (fun z => by have := (nI_eq (b := 6) (by omega) (by decide)).mp z; omega), if_neg (fun z => by have := (nI_eq (b := 7) (by omega) (by decide)).mp z; omega), if_neg (fun z => by have := (nI_eq (b := 8) (by omega) (by decide)).mp z; omega), show iv (nI w) = w from nI_clamp (by omega)]
    have ok : ∀ w : Int32, ¬ zin w 0 8 = 0 → shpC (e1 0) p0 w = 0 := fun w hw => by unfold shpC; rw [if_neg c, if_neg hw]
    refine ⟨fun c0 => ?_, fun d0 => ⟨fun c1 => ?_, fun d1 => ⟨fun c2 => ?_, fun d2 => ⟨fun c3' => ?_, fun d3 => ⟨fun c4 => ?_, fun d4 => ⟨fun c5 => ?_, fun d5 => ⟨fun c6 => ?_, fun d6 => ⟨fun c7 => ?_, fun d7 => ⟨fun c8 => ?_, fun d8 => ?_⟩⟩⟩⟩⟩⟩⟩⟩⟩
    · subst c0; exact ⟨ok _ (by decide), v0.trans (va 0 (by omega)).symm, h⟩
    · subst c1; exact ⟨ok _ (by decide), v1.trans (va 1 (by omega)).symm, h⟩
    · subst c2; exact ⟨ok _ (by decide), v2.trans (va 2 (by omega)).symm, h⟩
    · subst c3'; exact ⟨ok _ (by decide), v3.trans (va 3 (by omega)).symm, h⟩
    · subst c4; exact ⟨ok _ (by decide), v4.trans (va 4 (by omega)).symm, h⟩
    · subst c5; exact ⟨ok _ (by decide), by rw [v6]; rfl, h⟩
    · subst c6; exact ⟨fxM e0, e1 0, iv p0, ⟨h.now.1, hv, hy⟩, ok _ (by decide), rfl, h⟩
    · subst c7; exact ⟨ok _ (by decide), by rw [v7]; rfl, h⟩
    · subst c8; exact ⟨ok _ (by decide), by rw [v8]; rfl, h⟩
    · refine ⟨⟨by omega, by omega⟩, Or.inr ⟨?_, rfl⟩, h⟩
      unfold shpC
      rw [if_neg c, if_pos]
      by_cases g : zin p1 0 8 = 0
      · exact g
      · obtain ⟨j, hj, ej⟩ := zin_n (m := 8) (by decide) g
        subst ej
        have : j = 0 ∨ j = 1 ∨ j = 2 ∨ j = 3 ∨ j = 4 ∨ j = 5 ∨ j = 6 ∨ j = 7 ∨ j = 8 := by omega
        rcases this with z | z | z | z | z | z | z | z | z <;> subst z
        · exact absurd rfl d0
        · exact absurd rfl d1
        · exact absurd rfl d2
        · exact absurd rfl d3
        · exact absurd rfl d4
        · exact absurd rfl d5
        · exact absurd rfl d6
        · exact absurd rfl d7
        · exact absurd rfl d8)
theorem kd_X10_accessorial (l : Launch) (hst : l.stackTraces = false) (D : va_G) (T : Nat → ClassId) (x0 : Nat) (p0 : Int32) (p1 : Int32) (p2 : Int32) (S : HS) (e0 : (Nat → Nat)) (e1 : (Nat → Nat → Int32)) (e2 : (Nat → Int32)) (e3 : (Nat → Int32)) (e4 : (List Int32)) (mc ms : Nat) (hx0 : hK S x0 = 11) (h : FrS S e0 e1 e2 e3 e4 ∧ x0 = e0 50 ∧ 200 ≤ mc ∧ 2000 ≤ ms) : CXi l yX10_accessorial (ws_X10_accessorial) rm_X10_accessorial D T [.ref x0, .int p0, .int p1, .int p2] S mc ms (fun v S1 => (accC (e1 0) p0 p1 p2 = 0 ∧ v = e1 0 (274 + 510 * iv p0 + 150 + 36 * iv p1 + 1 + iv p2) ∧ FrS S1 e0 e1 e2 e3 e4)) (fun E9 S1 => ((accC (e1 0) p0 p1 p2 = 1 ∧ E9 = "java/lang/IndexOutOfBoundsException") ∨ (accC (e1 0) p0 p1 p2 = 2 ∧ E9 = "java/util/NoSuchElementException") ∨ (accC (e1 0) p0 p1 p2 = 3 ∧ E9 = "java/lang/IllegalArgumentException")) ∧ FrS S1 e0 e1 e2 e3 e4) := c_X10_accessorial l hst D T x0 p0 p1 p2 S mc ms hx0 _ _ <|
  (by
    obtain ⟨h, e, hmc, hms⟩ := h
    unfold wp_X10_accessorial
    refine ⟨1, 6, ⟨by omega, by omega⟩, e0, e1, e2, e3, e4, ⟨h, e, Nat.le_refl _, Nat.le_refl _⟩, fun E9 S9 _ h9 => ?_, fun o S10 _ _ h10 => ?_⟩
    · obtain ⟨c, eS⟩ := h9
      subst eS
      have cc : ∀ k : Int32, ¬ k = 0 → wrC (e1 0) p0 p1 = k → accC (e1 0) p0 p1 p2 = k := fun k hk z => by
        unfold wrC at z
        unfold accC
        by_cases c1 : zin p0 0 (e1 0 0 - 1) = 0
        · rw [if_pos c1] at z ⊢; exact z
        · rw [if_neg c1] at z ⊢
          by_cases c2 : zin p1 0 9 = 0
          · rw [if_pos c2] at z ⊢; exact z
          · rw [if_neg c2] at z ⊢
            by_cases c4 : e1 0 (274 + 510 * iv p0 + 150 + 36 * iv p1) = 0
            · rw [if_pos c4] at z ⊢; exact z
            · rw [if_neg c4] at z; exact absurd z.symm hk
      rcases c with ⟨c, eE⟩ | ⟨c, eE⟩
      · exact ⟨Or.inl ⟨cc 1 (by decide) c, eE⟩, h⟩
      · exact ⟨Or.inr (Or.inl ⟨cc 2 (by decide) c, eE⟩), h⟩
    obtain ⟨eS, c, y, ey, hy⟩ := h10
    subst eS
    refine ⟨y, ey, fun _ => ?_⟩
    have ac : ∀ w, accC (e1 0) p0 p1 w = if zin w 0 4 = 0 then 3 else 0 := fun w => by
      unfold wrC at c
      unfold accC
      by_cases c1 : zin p0 0 (e1 0 0 - 1) = 0
      · rw [if_pos c1] at c; exact absurd c (by decide)
      · rw [if_neg c1] at c ⊢
        by_cases c2 : zin p1 0 9 = 0
        · rw [if_pos c2] at c; exact absurd c (by decide)
        · rw [if_neg c2] at c ⊢
          by_cases c4 : e1 0 (274 + 510 * iv p0 + 150 + 36 * iv p1) = 0
          · rw [if_pos c4] at c; exact absurd c (by decide)
          · rw [if_neg c4]
    have ok : ∀ w : Int32, ¬ zin w 0 4 = 0 → accC (e1 0) p0 p1 w = 0 := fun w hw => by rw [ac, if_neg hw]
    obtain ⟨_, _, v1, v2, v5, v3, al, ar, g1, g2, _, _, _, _, v4, _⟩ := hy
    have va : ∀ w : Nat, w < 5 → ∀ x : Int32, x = e1 0 (274 + 510 * iv p0 + 150 + 36 * iv p1 + (1 + w)) → x = e1 0 (274 + 510 * iv p0 + 150 + 36 * iv p1 + 1 + iv (nI w)) := fun w hw x hx => by
      rw [show iv (nI w) = w from nI_clamp (by omega), Nat.add_assoc]; exact hx
    refine ⟨fun c0 => ?_, fun d0 => ⟨fun c1 => ?_, fun d1 => ⟨fun c2 => ?_, fun d2 => ⟨fun c3' => ?_, fun d3 => ⟨fun c4 => ?_, fun d4 => ?_⟩⟩⟩⟩⟩
    · subst c0; exact ⟨ok _ (by decide), va 0 (by omega) _ v1, h⟩
    · subst c1; exact ⟨ok _ (by decide), va 1 (by omega) _ v2, h⟩
    · subst c2; exact ⟨ok _ (by decide), va 2 (by omega) _ v3, h⟩
    · subst c3'; exact ⟨al, g1, fun _ => ⟨ok _ (by decide), va 3 (by omega) _ v4, h⟩⟩
    · subst c4; exact ⟨ok _ (by decide), va 4 (by omega) _ v5, h⟩
    · refine ⟨⟨by omega, by omega⟩, Or.inr (Or.inr ⟨?_, rfl⟩), h⟩
      rw [ac, if_pos]
      by_cases g : zin p2 0 4 = 0
      · exact g
      · obtain ⟨j, hj, ej⟩ := zin_n (m := 4) (by decide) g
        subst ej
        have : j = 0 ∨ j = 1 ∨ j = 2 ∨ j = 3 ∨ j = 4 := by omega
        rcases this with z | z | z | z | z <;> subst z
        · exact absurd rfl d0
        · exact absurd rfl d1
        · exact absurd rfl d2
        · exact absurd rfl d3
        · exact absurd rfl d4)
theorem zin_k {x : Int32} {n : Nat} (hn : n < 2 ^ 31) (h : ¬ zin x (-1) (nI n - 1) = 0) : x = -1 ∨ ∃ j : Nat, j < n ∧ x = nI j := by
  by_cases c : x = -1
  · exact Or.inl c
  · refine Or.inr (zin_m hn (zin_0.mpr ⟨?_, (zin_0.mp h).2⟩))
    have h1 := (zin_0.mp h).1
    rw [le_toInt] at h1 ⊢
    rw [Int32.toInt_zero]
    have e1 : (-1 : Int32).toInt = -1 := by decide
    have : x.toInt ≠ -1 := fun z => c (Int32.toInt_inj.mp (z.trans e1.symm))
    omega
theorem kd_X10_breakOf (l : Launch) (hst : l.stackTraces = false) (D : va_G) (T : Nat → ClassId) (x0 : Nat) (p0 : Int32) (p1 : Int32) (p2 : Int32) (p3 : Int32) (S : HS) (e0 : (Nat → Nat)) (e1 : (Nat → Nat → Int32)) (e2 : (Nat → Int32)) (e3 : (Nat → Int32)) (e4 : (List Int32)) (mc ms : Nat) (hx0 : hK S x0 = 11) (h : FrS S e0 e1 e2 e3 e4 ∧ x0 = e0 50 ∧ 200 ≤ mc ∧ 2000 ≤ ms) : CXi l yX10_breakOf (ws_X10_breakOf) rm_X10_breakOf D T [.ref x0, .int p0, .int p1, .int p2, .int p3] S mc ms (fun v S1 => (brkC (e1 0) p0 p1 p2 = 0 ∧ v = brkA (e1 0) (iv p0) (iv p1) p2 p3 ∧ FrS S1 e0 e1 e2 e3 e4)) (fun E9 S1 => ((brkC (e1 0) p0 p1 p2 = 1 ∧ E9 = "java/lang/IndexOutOfBoundsException")) ∧ FrS S1 e0 e1 e2 e3 e4) := c_X10_breakOf l hst D T x0 p0 p1 p2 p3 S mc ms hx0 _ _ <|
  (by
    obtain ⟨h, e, hmc, hms⟩ := h
    have hh : FrS S e0 e1 e2 e3 e4 ∧ x0 = e0 50 := ⟨h, e⟩
    unfold wp_X10_breakOf
    refine ⟨e0, e1, e2, e3, e4, hh, fun o S1 _ _ h1 => ?_⟩
    obtain ⟨e1', hn, hs⟩ := h1
    subst e1'
    by_cases c : zin p0 0 (e1 0 0 - 1) = 0
    · rw [hn (Or.inl c)]
      exact ⟨fun _ => ⟨⟨by omega, by omega⟩, ⟨by unfold brkC; rw [if_pos c], rfl⟩, h⟩, fun b hb => by cases hb⟩
    by_cases c2 : zin p1 1 9 = 0
    · rw [hn (Or.inr c2)]
      exact ⟨fun _ => ⟨⟨by omega, by omega⟩, ⟨by unfold brkC; rw [if_neg c, if_pos c2], rfl⟩, h⟩, fun b hb => by cases hb⟩
    obtain ⟨y, ey, hy⟩ := hs c c2
    rw [ey]
    refine ⟨fun z => (by cases z), fun b hb _ => ?_⟩
    cases hb
    have hv := zv h.now.1 c
    have hz := zz c2
    obtain ⟨_, _, i100, i103, w, p, rw', rp, fw, fp, hwp⟩ := hy
    obtain ⟨n, hn5, en⟩ : sm (e1 0) (274 + 510 * iv p0 + 38 + iv p1 - 1) 5 := h.now.1.brk hv.1 hz.1 hz.2.1
    rw [i100, i103]
    refine ⟨fun c4 => ?_, fun c4 => ⟨⟨by omega, by omega⟩, ⟨by unfold brkC; rw [if_neg c, if_neg c2, if_pos c4], rfl⟩, h⟩⟩
    have ok : brkC (e1 0) p0 p1 p2 = 0 := by unfold brkC; rw [if_neg c, if_neg c2, if_neg c4]
    refine ⟨fun c5 => ?_, fun c5 => ?_⟩
    · rw [en] at c4
      rcases zin_k (by omega) c4 with z | ⟨j, hj, ej⟩
      · exact absurd z c5
      · subst ej
        have hj5 := hwp j (by rw [en, show iv (nI n) = n from nI_clamp (by omega)]; exact hj)
        have ij : iv (nI j) = j := nI_clamp (by omega)
        refine ⟨fun c6 => ⟨w, rw', fun _ => ?_⟩, fun c6 => ⟨p, rp, fun _ => ?_⟩⟩
        · rw [fw.2.1, nz_vp (by omega) (by decide), show Int32.toNatClampNeg (nI j) = j from nI_clamp (by omega)]
          refine ⟨by omega, ok, ?_, h⟩
          unfold brkA
          rw [if_pos (nI_pos' (by omega)), if_pos c6, ij]
          exact hj5.1
        · rw [fp.2.1, nz_vp (by omega) (by decide), show Int32.toNatClampNeg (nI j) = j from nI_clamp (by omega)]
          refine ⟨by omega, ok, ?_, h⟩
          unfold brkA
          rw [if_pos (nI_pos' (by omega)), if_neg c6, ij]
          exact hj5.2
    · subst c5
      refine ⟨fun c6 => ⟨ok, ?_, h⟩, fun c6 => ⟨ok, ?_, h⟩⟩
      · unfold brkA
        rw [if_neg (by decide), if_pos c6]
      · unfold brkA
        rw [if_neg (by decide), if_neg c6])

/-- the rater through a rating's work -/
theorem FrS.wk {S S1 : HS} {a : Nat → Nat} {mu : Nat → Nat → Int32} {g b : Nat → Int32} {sh : List Int32} (h : FrS S a mu g b sh) (he : ext S S1) (hf : frR S S1 (a 54)) : FrS S1 a mu g b sh := by
  have q := h.1.2.2.2.2.2.2.1
  refine h.sc (N := fun c => c = a 54 ∨ c = a 55 ∨ c = a 56) he (hf.M (Or.inl rfl) (fun b9 hb => Or.inr (Or.inl (Option.some.inj (hb.symm.trans q.1)))) (fun b9 hb => Or.inr (Or.inr (Option.some.inj (hb.symm.trans q.2))))) (fun c _ hc => ?_) (fun i _ _ j => by rw [hf.2.2.1]) ?_
  · rcases hc with e | e | e
    · exact ⟨54, by omega, by omega, e⟩
    · exact ⟨55, by omega, by omega, e⟩
    · exact ⟨56, by omega, by omega, e⟩
  · rw [hf.2.2.2.2.1 (a 58) (fun z => h.1.ne (i := 56) (j := 58) (by omega) (by omega) (by omega) (Option.some.inj (q.2.symm.trans z)))]
    exact h.1.2.2.2.2.2.2.2.2
theorem FrS.wfr {S : HS} {a : Nat → Nat} {mu : Nat → Nat → Int32} {g b : Nat → Int32} {sh : List Int32} (h : FrS S a mu g b sh) : WFR (mu 0) := (h.2.1 0 (by omega)).1.2.1
theorem kd_X10_requireSet (l : Launch) (hst : l.stackTraces = false) (D : va_G) (T : Nat → ClassId) (x0 : Nat) (p0 : Int32) (S : HS) (e0 : (Nat → Nat)) (e1 : (Nat → Nat → Int32)) (e2 : (Nat → Int32)) (e3 : (Nat → Int32)) (e4 : (List Int32)) (mc ms : Nat) (hx0 : hK S x0 = 11) (h : FrS S e0 e1 e2 e3 e4 ∧ x0 = e0 50 ∧ 2 ≤ mc ∧ 12 ≤ ms) : CXv l yX10_requireSet (ws_X10_requireSet) rm_X10_requireSet D T [.ref x0, .int p0] S mc ms (fun S1 => (lckF (e1 0) p0 8 = 0 ∧ S1 = S)) (fun E9 S1 => ((lckF (e1 0) p0 8 = 1 ∧ E9 = "java/lang/IndexOutOfBoundsException") ∨ (lckF (e1 0) p0 8 = 2 ∧ E9 = "java/lang/IllegalArgumentException")) ∧ S1 = S) := c_X10_requireSet l hst D T x0 p0 S mc ms hx0 _ _ <|
  (by
    obtain ⟨h, e, hmc, hms⟩ := h
    unfold wp_X10_requireSet
    refine ⟨1, 6, ⟨by omega, by omega⟩, e0, e1, e2, e3, e4, ⟨h, e, Nat.le_refl _, Nat.le_refl _⟩, fun E9 S9 _ h9 => ?_, fun S10 _ h10 => ?_⟩
    · obtain ⟨c, eE, eS⟩ := h9
      exact ⟨Or.inl ⟨by unfold lckF; rw [if_pos c], eE⟩, eS⟩
    obtain ⟨c, eS⟩ := h10
    have c0 : ¬ grpF (e1 0) p0 = 0 := by rw [c]; decide
    obtain ⟨n, hn, hn0, ep, ei⟩ := (grp_gok h.now.1 c0).n
    have hp := (ones_pop hn).2
    refine ⟨n, ⟨hn, ep⟩, ?_⟩
    rw [show (nI (popN n) ≤ (8 : Int32)) = (popN n ≤ 8) from propext (nI_leI (b := 8) (by omega) (by decide))]
    have el : lckF (e1 0) p0 8 = if 8 < popN n then 2 else 0 := by unfold lckF; rw [if_neg c0, ei]
    exact ⟨fun c8 => ⟨by rw [el, if_neg (by omega)], eS⟩, fun c8 => ⟨⟨by omega, by omega⟩, Or.inr ⟨by rw [el, if_pos (by omega)], rfl⟩, eS⟩⟩)
theorem kd_X10_requireRated (l : Launch) (hst : l.stackTraces = false) (D : va_G) (T : Nat → ClassId) (x0 : Nat) (p0 : Int32) (S : HS) (e0 : (Nat → Nat)) (e1 : (Nat → Nat → Int32)) (e2 : (Nat → Int32)) (e3 : (Nat → Int32)) (e4 : (List Int32)) (mc ms : Nat) (hx0 : hK S x0 = 11) (h : FrS S e0 e1 e2 e3 e4 ∧ x0 = e0 50 ∧ gok (e1 0) p0 ∧ 1 ≤ mc ∧ 6 ≤ ms) : CXv l yX10_requireRated (ws_X10_requireRated) rm_X10_requireRated D T [.ref x0, .int p0] S mc ms (fun S1 => ((rsnD (e1 0) (iv p0)).1 = 0 ∧ wkP S1 (e0 54) (e1 0) (iv p0) ∧ FrS S1 e0 e1 e2 e3 e4)) (fun E9 S1 => ¬ (rsnD (e1 0) (iv p0)).1 = 0 ∧ E9 = "java/lang/IllegalStateException" ∧ FrS S1 e0 e1 e2 e3 e4) := c_X10_requireRated l hst D T x0 p0 S mc ms hx0 _ _ <|
  (by
    obtain ⟨h, e, hg, hmc, hms⟩ := h
    subst e
    unfold wp_X10_requireRated
    refine ⟨e0 54, h.r12, fun _ => ⟨e0 0, h.r0, fun _ => ⟨fxM e0, e1 0, ⟨h.now.1, h.wfr, h.now.2, h.1.rt, hg⟩, fun S10 he10 h10 => ?_⟩⟩⟩
    obtain ⟨f10, w10⟩ := h10
    have h10 := h.wk he10 f10
    refine ⟨e0 54, h10.r12, fun _ => ?_⟩
    have h8 := rsnD_8 (μ := e1 0) (g := iv p0)
    rw [w10.1, nz_eq0 (by omega)]
    exact ⟨fun c => ⟨c, w10, h10⟩, fun c => ⟨⟨hmc, hms⟩, c, rfl, h10⟩⟩)
theorem rl_rs {P : HS → Prop} {X : String → HS → Prop} {a : Nat → Nat} {mu : Nat → Nat → Int32} {g b : Nat → Int32} {sh : List Int32} {n ns mc ms : Nat} {x2 : Int32} (hns : mu 0 1 = nI ns) (hn10 : ns ≤ 10) (hn : n < 2 ^ ns) (hmc : 1 ≤ mc) (hms : 6 ≤ ms) : ∀ (k s fuel : Nat) (S : HS), s + k = 10 → k < fuel → FrS S a mu g b sh → (∀ S1, rfFold (mu 0) n (ns - s) s = none → FrS S1 a mu g b sh → P S1) → (∀ S1 t, rfFold (mu 0) n (ns - s) s = some t → FrS S1 a mu (if x2 = 0 then g else kpG g (nI (rsnD (mu 0) (2 ^ t)).1) (rsnD (mu 0) (2 ^ t)).2) b sh → X "java/lang/IllegalStateException" S1) → wp_X10_requireSingles_2 P X fuel (a 50) (nI n) x2 (nI s) S mc ms := by
  have hn1 : n < 1024 := Nat.lt_of_lt_of_le hn (p2_le hn10)
  intro k
  induction k with
  | zero =>
    intro s fuel S hs hf h hP hX
    obtain ⟨f, rfl⟩ : ∃ f, fuel = f + 1 := ⟨fuel - 1, by omega⟩; rw [wp_X10_requireSingles_2]; unfold wb_X10_requireSingles_2; dsimp only
    rw [show ((10 : Int32) ≤ nI s) = (10 ≤ s) from propext (nI_leI (a := 10) (by decide) (by omega))]
    exact ⟨fun _ => hP S (by rw [show ns - s = 0 by omega, rfFold]) h, fun c => absurd (by omega) c⟩
  | succ k ih =>
    intro s fuel S hs hf h hP hX
    obtain ⟨f, rfl⟩ : ∃ f, fuel = f + 1 := ⟨fuel - 1, by omega⟩; rw [wp_X10_requireSingles_2]; unfold wb_X10_requireSingles_2; dsimp only
    rw [show ((10 : Int32) ≤ nI s) = (10 ≤ s) from propext (nI_leI (a := 10) (by decide) (by omega)), nI_1]
    refine ⟨fun c => absurd c (by omega), fun _ => ⟨fun c => ?_, fun c v e => ?_⟩⟩
    · have tb : n.testBit s = true := by
        by_cases t : n.testBit s = true
        · exact t
        · exact absurd ((has_0 hn1 (by omega)).mpr t) c
      have hsn : s < ns := by
        rcases Nat.lt_or_ge s ns with q | q
        · exact q
        · exact absurd tb (by rw [Nat.testBit_lt_two_pow (Nat.lt_of_lt_of_le hn (Nat.pow_le_pow_right (by decide) q))]; decide)
      have hg : gok (mu 0) (nI (2 ^ s)) := gok.tb hns hn10 hsn
      have hp : 2 ^ s ≤ 512 := Nat.pow_le_pow_right (n := 2) (by decide) (show s ≤ 9 by omega)
      rw [sh1 (by omega)]
      refine ⟨a 54, h.r12, fun _ => ⟨a 0, h.r0, fun _ => ⟨fxM a, mu 0, ⟨h.now.1, h.wfr, h.now.2, h.1.rt, hg⟩, fun S16 he16 h16 => ?_⟩⟩⟩
      obtain ⟨f16, w16⟩ := h16
      have h16 := h.wk he16 f16
      rw [show iv (nI (2 ^ s)) = 2 ^ s from nI_clamp (by omega)] at w16
      have h8 := rsnD_8 (μ := mu 0) (g := 2 ^ s)
      refine ⟨a 54, h16.r12, fun _ => ?_⟩
      rw [w16.1, nz_eq0 (by omega)]
      have er : rfFold (mu 0) n (ns - s) s = if n.testBit s = true ∧ ¬ (rsnD (mu 0) (2 ^ s)).1 = 0 then some s else rfFold (mu 0) n (ns - (s + 1)) (s + 1) := by
        rw [show ns - s = (ns - (s + 1)) + 1 by omega, rfFold]
      refine ⟨fun c2 v e => ?_, fun c2 => ⟨fun c3 => ⟨⟨hmc, hms⟩, ?_⟩, fun c3 => ?_⟩⟩
      · subst e
        exact ih (s + 1) f S16 (by omega) (by omega) h16 (fun S1 q1 => hP S1 (by rw [er, if_neg (fun z => z.2 c2)]; exact q1)) (fun S1 t q1 => hX S1 t (by rw [er, if_neg (fun z => z.2 c2)]; exact q1))
      · refine hX S16 s (by rw [er, if_pos ⟨tb, c2⟩]) ?_
        rw [if_pos c3]
        exact h16
      · refine ⟨a, mu, g, b, sh, ⟨h16, rfl⟩, fun S36 _ h36 => ⟨⟨hmc, hms⟩, hX S36 s (by rw [er, if_pos ⟨tb, c2⟩]) ?_⟩⟩
        rw [if_neg c3]
        rw [w16.1, w16.2.1 c2] at h36
        exact h36
    · subst e
      have tb := (has_0 hn1 (show s < 10 by omega)).mp c
      have er : rfFold (mu 0) n (ns - s) s = rfFold (mu 0) n (ns - (s + 1)) (s + 1) := by
        rcases Nat.lt_or_ge s ns with q | q
        · rw [show ns - s = (ns - (s + 1)) + 1 by omega, rfFold, if_neg (fun z => tb z.1)]
        · rw [show ns - s = 0 by omega, show ns - (s + 1) = 0 by omega]; rfl
      exact ih (s + 1) f S (by omega) (by omega) h (fun S1 q1 => hP S1 (by rw [er]; exact q1)) (fun S1 t q1 => hX S1 t (by rw [er]; exact q1))
theorem kd_X10_requireSingles (l : Launch) (hst : l.stackTraces = false) (D : va_G) (T : Nat → ClassId) (x0 : Nat) (p0 : Int32) (p1 : Int32) (S : HS) (e0 : (Nat → Nat)) (e1 : (Nat → Nat → Int32)) (e2 : (Nat → Int32)) (e3 : (Nat → Int32)) (e4 : (List Int32)) (mc ms : Nat) (hx0 : hK S x0 = 11) (h : FrS S e0 e1 e2 e3 e4 ∧ x0 = e0 50 ∧ gok (e1 0) p0 ∧ 1 ≤ mc ∧ 6 ≤ ms) : CXv l yX10_requireSingles (ws_X10_requireSingles) rm_X10_requireSingles D T [.ref x0, .int p0, .int p1] S mc ms (fun S1 => (rfF (e1 0) (iv p0) = none ∧ FrS S1 e0 e1 e2 e3 e4)) (fun E9 S1 => E9 = "java/lang/IllegalStateException" ∧ ∃ t, rfF (e1 0) (iv p0) = some t ∧ FrS S1 e0 e1 (if p1 = 0 then e2 else kpG e2 (nI (rsnD (e1 0) (2 ^ t)).1) (rsnD (e1 0) (2 ^ t)).2) e3 e4) := c_X10_requireSingles l hst D T x0 p0 p1 S mc ms hx0 _ _ <|
  (by
    obtain ⟨h, e, hg, hmc, hms⟩ := h
    subst e
    obtain ⟨n, ns, ens, hns, hn0, hn, eg⟩ := hg
    subst eg
    have hn1 : n < 1024 := Nat.lt_of_lt_of_le hn (p2_le hns)
    have ig : iv (nI n) = n := nI_clamp (by omega)
    have ins : iv (e1 0 1) = ns := by rw [ens]; exact nI_clamp (by omega)
    have er : rfF (e1 0) n = rfFold (e1 0) n (ns - 0) 0 := by unfold rfF; rw [ins]; rfl
    unfold wp_X10_requireSingles
    rw [ig, er]
    exact ⟨20, rl_rs ens hns hn hmc hms 10 0 20 S (by omega) (by omega) h (fun S1 q1 q2 => ⟨q1, q2⟩) (fun S1 t q1 q2 => ⟨rfl, t, q1, q2⟩)⟩)
theorem kd_X10_rate (l : Launch) (hst : l.stackTraces = false) (D : va_G) (T : Nat → ClassId) (x0 : Nat) (p0 : Int32) (S : HS) (e0 : (Nat → Nat)) (e1 : (Nat → Nat → Int32)) (e2 : (Nat → Int32)) (e3 : (Nat → Int32)) (e4 : (List Int32)) (mc ms : Nat) (hx0 : hK S x0 = 11) (h : FrS S e0 e1 e2 e3 e4 ∧ x0 = e0 50 ∧ 200 ≤ mc ∧ 2000 ≤ ms) : CXi l yX10_rate (ws_X10_rate) rm_X10_rate D T [.ref x0, .int p0] S mc ms (fun v S1 => (rateC (e1 0) p0 = 0 ∧ v = totF (e1 0) (iv p0) ∧ FrS S1 e0 e1 e2 e3 e4)) (fun E9 S1 => ((rateC (e1 0) p0 = 1 ∧ E9 = "java/lang/IndexOutOfBoundsException") ∨ (rateC (e1 0) p0 = 2 ∧ E9 = "java/lang/IllegalStateException")) ∧ FrS S1 e0 e1 (if rateC (e1 0) p0 = 2 then kpG e2 (nI (rsnD (e1 0) (iv p0)).1) (rsnD (e1 0) (iv p0)).2 else e2) e3 e4) := c_X10_rate l hst D T x0 p0 S mc ms hx0 _ _ <|
  (by
    obtain ⟨h, e, hmc, hms⟩ := h
    unfold wp_X10_rate
    refine ⟨1, 6, ⟨by omega, by omega⟩, e0, e1, e2, e3, e4, ⟨h, e, Nat.le_refl _, Nat.le_refl _⟩, fun E9 S9 _ h9 => ?_, fun S10 _ h10 => ?_⟩
    · obtain ⟨c, eE, eS⟩ := h9
      subst eS
      have rC : rateC (e1 0) p0 = 1 := by unfold rateC; rw [if_pos c]
      refine ⟨Or.inl ⟨rC, eE⟩, ?_⟩
      rw [rC, if_neg (by decide)]
      exact h
    obtain ⟨c, eS⟩ := h10
    subst eS e
    have c0 : ¬ grpF (e1 0) p0 = 0 := by rw [c]; decide
    have hg := grp_gok h.now.1 c0
    have rC : rateC (e1 0) p0 = if (rsnD (e1 0) (iv p0)).1 = 0 then 0 else 2 := by unfold rateC; rw [if_neg c0]
    refine ⟨e0 54, h.r12, fun _ => ⟨e0 0, h.r0, fun _ => ⟨fxM e0, e1 0, ⟨h.now.1, h.wfr, h.now.2, h.1.rt, hg⟩, fun S27 he27 h27 => ?_⟩⟩⟩
    obtain ⟨f27, w27⟩ := h27
    have h27 := h.wk he27 f27
    have h8 := rsnD_8 (μ := e1 0) (g := iv p0)
    refine ⟨e0 54, h27.r12, fun _ => ?_⟩
    rw [w27.1, nz_eq0 (by omega)]
    refine ⟨fun c2 => ⟨e0 54, h27.r12, fun _ => ⟨by rw [rC, if_pos c2], ?_, h27⟩⟩, fun c2 => ⟨e0, e1, e2, e3, e4, ⟨h27, rfl⟩, fun S51 _ h51 => ⟨⟨by omega, by omega⟩, Or.inr ⟨by rw [rC, if_neg c2], rfl⟩, ?_⟩⟩⟩
    · obtain ⟨_, _, _, w71, _, _, w74, _, w76, w77⟩ := w27.2.2 c2
      rw [w71, w74, w76, w77]
      rfl
    · rw [if_pos (show rateC (e1 0) p0 = 2 by rw [rC, if_neg c2])]
      rw [w27.1, w27.2.1 c2] at h51
      exact h51)
theorem kd_X10_refuses (l : Launch) (hst : l.stackTraces = false) (D : va_G) (T : Nat → ClassId) (x0 : Nat) (p0 : Int32) (S : HS) (e0 : (Nat → Nat)) (e1 : (Nat → Nat → Int32)) (e2 : (Nat → Int32)) (e3 : (Nat → Int32)) (e4 : (List Int32)) (mc ms : Nat) (hx0 : hK S x0 = 11) (h : FrS S e0 e1 e2 e3 e4 ∧ x0 = e0 50 ∧ 200 ≤ mc ∧ 2000 ≤ ms) : CXi l yX10_refuses (ws_X10_refuses) rm_X10_refuses D T [.ref x0, .int p0] S mc ms (fun v S1 => ((if grpF (e1 0) p0 = 0 then 1 else 0) = 0 ∧ v = nI (rsnD (e1 0) (iv p0)).1 ∧ FrS S1 e0 e1 e2 e3 e4)) (fun E9 S1 => (((if grpF (e1 0) p0 = 0 then 1 else 0) = 1 ∧ E9 = "java/lang/IndexOutOfBoundsException")) ∧ FrS S1 e0 e1 e2 e3 e4) := c_X10_refuses l hst D T x0 p0 S mc ms hx0 _ _ <|
  (by
    obtain ⟨h, e, hmc, hms⟩ := h
    unfold wp_X10_refuses
    refine ⟨1, 6, ⟨by omega, by omega⟩, e0, e1, e2, e3, e4, ⟨h, e, Nat.le_refl _, Nat.le_refl _⟩, fun E9 S9 _ h9 => ?_, fun S10 _ h10 => ?_⟩
    · obtain ⟨c, eE, eS⟩ := h9
      subst eS
      exact ⟨⟨by rw [if_pos c], eE⟩, h⟩
    obtain ⟨c, eS⟩ := h10
    subst eS e
    have c0 : ¬ grpF (e1 0) p0 = 0 := by rw [c]; decide
    refine ⟨e0 54, h.r12, fun _ => ⟨e0 0, h.r0, fun _ => ⟨fxM e0, e1 0, ⟨h.now.1, h.wfr, h.now.2, h.1.rt, grp_gok h.now.1 c0⟩, fun S27 he27 h27 => ?_⟩⟩⟩
    obtain ⟨f27, w27⟩ := h27
    have h27 := h.wk he27 f27
    exact ⟨e0 54, h27.r12, fun _ => ⟨by rw [if_neg c0], w27.1, h27⟩⟩)
theorem kd_X10_rating (l : Launch) (hst : l.stackTraces = false) (D : va_G) (T : Nat → ClassId) (x0 : Nat) (p0 : Int32) (p1 : Int32) (S : HS) (e0 : (Nat → Nat)) (e1 : (Nat → Nat → Int32)) (e2 : (Nat → Int32)) (e3 : (Nat → Int32)) (e4 : (List Int32)) (mc ms : Nat) (hx0 : hK S x0 = 11) (h : FrS S e0 e1 e2 e3 e4 ∧ x0 = e0 50 ∧ 200 ≤ mc ∧ 2000 ≤ ms) : CXi l yX10_rating (ws_X10_rating) rm_X10_rating D T [.ref x0, .int p0, .int p1] S mc ms (fun v S1 => (ratC (e1 0) p0 p1 = 0 ∧ v = raF (e1 0) (iv p0) p1 ∧ FrS S1 e0 e1 e2 e3 e4)) (fun E9 S1 => ((ratC (e1 0) p0 p1 = 1 ∧ E9 = "java/lang/IndexOutOfBoundsException") ∨ (ratC (e1 0) p0 p1 = 2 ∧ E9 = "java/lang/IllegalArgumentException") ∨ (ratC (e1 0) p0 p1 = 3 ∧ E9 = "java/lang/IllegalStateException")) ∧ FrS S1 e0 e1 e2 e3 e4) := c_X10_rating l hst D T x0 p0 p1 S mc ms hx0 _ _ <|
  (by
    obtain ⟨h, e, hmc, hms⟩ := h
    unfold wp_X10_rating
    refine ⟨1, 6, ⟨by omega, by omega⟩, e0, e1, e2, e3, e4, ⟨h, e, Nat.le_refl _, Nat.le_refl _⟩, fun E9 S9 _ h9 => ?_, fun S10 _ h10 => ?_⟩
    · obtain ⟨c, eE, eS⟩ := h9
      subst eS
      exact ⟨Or.inl ⟨by unfold ratC; rw [if_pos c], eE⟩, h⟩
    obtain ⟨c, eS⟩ := h10
    subst eS e
    have c0 : ¬ grpF (e1 0) p0 = 0 := by rw [c]; decide
    have hg := grp_gok h.now.1 c0
    refine ⟨fun c1 => ⟨1, 6, ⟨by omega, by omega⟩, e0, e1, e2, e3, e4, ⟨h, rfl, hg, Nat.le_refl _, Nat.le_refl _⟩, fun E9 S9 _ h9 => ?_, fun S26 _ h26 => ?_⟩, fun c1 => ⟨⟨by omega, by omega⟩, Or.inr (Or.inl ⟨by unfold ratC; rw [if_neg c0, if_pos c1], rfl⟩), h⟩⟩
    · obtain ⟨c2, eE, h9⟩ := h9
      exact ⟨Or.inr (Or.inr ⟨by unfold ratC; rw [if_neg c0, if_neg c1, if_neg c2], eE⟩), h9⟩
    obtain ⟨z26, w26, h26⟩ := h26
    obtain ⟨w65, w66, w67, w71, w73, w72, w74, w75, w76, w77⟩ := w26.2.2 z26
    have ok : ratC (e1 0) p0 p1 = 0 := by unfold ratC; rw [if_neg c0, if_neg c1, if_pos z26]
    refine ⟨fun c => ⟨e0 54, h26.r12, fun _ => ⟨ok, ?_, h26⟩⟩, fun d0 => ⟨fun c => ⟨e0 54, h26.r12, fun _ => ⟨ok, ?_, h26⟩⟩, fun d1 => ⟨fun c => ⟨e0 54, h26.r12, fun _ => ⟨ok, ?_, h26⟩⟩, fun d2 => ⟨fun c => ⟨e0 54, h26.r12, fun _ => ⟨ok, ?_, h26⟩⟩, fun d3 => ⟨fun c => ⟨e0 54, h26.r12, fun _ => ⟨ok, ?_, h26⟩⟩, fun d4 => ⟨fun c => ⟨e0 54, h26.r12, fun _ => ⟨ok, ?_, h26⟩⟩, fun d5 => ⟨fun c => ⟨e0 54, h26.r12, fun _ => ⟨ok, ?_, h26⟩⟩, fun d6 => ⟨fun c => ⟨e0 54, h26.r12, fun _ => ⟨ok, ?_, h26⟩⟩, fun d7 => ⟨fun c => ⟨e0 54, h26.r12, fun _ => ⟨ok, ?_, h26⟩⟩, fun d8 => ⟨e0 54, h26.r12, fun _ => ⟨ok, ?_, h26⟩⟩⟩⟩⟩⟩⟩⟩⟩⟩⟩
    · subst c; exact w71
    · subst c; exact w74
    · subst c; exact w76
    · subst c; exact w77
    · subst c; exact w67
    · subst c; exact w72
    · subst c; exact w73
    · subst c; exact w75
    · subst c; exact w66
    · unfold raF
      dsimp only
      rw [if_neg d0, if_neg d1, if_neg d2, if_neg d3, if_neg d4, if_neg d5, if_neg d6, if_neg d7, if_neg d8]
      exact w65)

end S_DRAFT
